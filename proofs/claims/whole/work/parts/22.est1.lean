theorem va_P_nil {D : va_G} {H : Heap} : va_P D vwCl [] H := fun k q h => by simp at h
theorem nI_nm1 {i : Nat} (h : i < 2 ^ 31) : ¬ nI i = -1 := fun h2 => by
  have h3 := congrArg Int32.toInt h2
  rw [nI_toInt h] at h3
  have h4 : ((-1 : Int32)).toInt = -1 := by decide
  omega
theorem nI_xor0 {a b : Nat} (ha : a < 2147483648) (hb : b < 2147483648) : 0 ≤ (nI a ^^^ nI b) := by
  have h : nI a ^^^ nI b = nI (a ^^^ b) := by
    refine Int32.toBitVec_inj.mp ?_
    show (nI a).toBitVec ^^^ (nI b).toBitVec = (nI (a ^^^ b)).toBitVec
    exact (BitVec.ofNat_xor).symm
  rw [h]
  exact nI_pos' (Nat.xor_lt_two_pow (n := 31) ha hb)
theorem zMet.ofWF {l : Launch} {y : MethodName} {ws ws' : List Cond} {rm : Room} {Pc : Array Value → State → Prop} {Qc : Array Value → State → Outcome → State → Prop} {mc ms : Nat} {free : Addr → Prop} {cc : ByteArray} {maxL : Nat} {ret : Option FieldType}
    (hy : plainFor y = true) (hw : ws = Cond.code y cc maxL ret :: ws')
    (body : ∀ p e s m args below meth c s₁, BodyLoose p l y (headSpec ws rm) cc maxL ret e s m args below meth c s₁ → c.maxLocals = maxL → Pc args s →
      W p l e (headSpec ws rm).room s m args below meth c s.heap [] 0 0 (MQ below Qc args s mc ms free) (entryFrame m args maxL)) : Met l y ws rm Pc Qc mc ms free := by
  refine MetFree.of_bodySF (code := cc) (maxLocals := maxL) (ret := ret) hy ?_ ?_
  · intro args s m h hn
    obtain ⟨meth, c, h1, h2, h3, h4, h5, h6, -, -⟩ := Cond.code_spec hn (atoms_spec (ws := ws) h _ (by rw [hw]; exact List.mem_cons_self))
    exact ⟨meth, c, h1, h2, h3, h4, h5, h6⟩
  · intro p e s m args below meth c s₁ B hml hP _
    have hh0 : s₁.heap = s.heap := by rw [B.state]; rfl
    obtain ⟨t, a1, o, b1, b2, b3⟩ := body p e s m args below meth c s₁ B hml hP s₁ hh0 (Stand.of_body B)
    exact ⟨t, o, a1, b1, b2, ⟨b3.1, b3.2⟩⟩
theorem zR.ofF {l : Launch} {n : MethodName} {ws ws' : List Cond} {rm : Room} {D : va_G} {y : Nat → ClassId} {av : List Value} {w : va_W} {rv : Option Value} {cc : ByteArray} {maxL : Nat} {ret : Option FieldType} {own : String}
    (hy : plainFor n = true) (hw : ws = Cond.code n cc maxL ret :: ws') (hlen : (lg_sl av).length ≤ maxL) (ho : n.cls = own)
    (body : ∀ (p : Program) (e : Env) (s : State) (m : MethodId) (args : Array Value) (below : List Frame) (meth : Method) (c : Code) (ls : Array Slot), p.tables.exec = Jvm.exec → c.code = cc → meth.sig.returnType = ret → c.maxLocals = maxL → s.vm.findClass own = some m.cls → (∀ x ∈ ws, x.before args s = true) → meth.locks = false → va_P D vwCl w s.heap → va_K D vwCl (tyL y) s → lv_has ls maxL (lv_args 0 av) → W p l e rm s m args below meth c s.heap [] 0 0 (MQ below (zRQ rv) args s 0 0 (fun _ => False)) (F0 m 0 ls [])) : zR l n ws rm D y av w rv := by
  refine zMet.ofWF (cc := cc) (maxL := maxL) (ret := ret) hy hw ?_
  intro p e s m args below meth c s₁ B hml hv
  obtain ⟨rfl, hP, hK⟩ := hv
  have hown : s.vm.findClass own = some m.cls := by rw [← ho]; exact findClass_of_methodNamed B.named
  have hl := lv_entry av (n := maxL) hlen
  have hts := atoms_spec (ws := ws) B.pre
  rw [lg_entry_eq]
  exact body p e s m _ below meth c _ B.exec B.bytes B.returns hml hown hts B.notSynchronized hP hK hl
set_option maxHeartbeats 4000000 in
set_option maxRecDepth 100000 in
theorem c_J9_floorMod_7cf53 (l : Launch) (D : va_G) (y : Nat → ClassId) (a d : Nat) (ha : a < 2147483648) (hd0 : 0 < d) (hd : d < 2147483648)  : zR l yJ9_floorMod_7cf53 wsJ9_floorMod_7cf53 { frames := 0, cells := 0, slots := 0, locals := 0 } D y [.int (nI a), .int (nI d)] ([]) (some (.int (nI (a % d)))) := by
  refine zR.ofF (cc := cJ9_floorMod_7cf53) (maxL := 3) (ret := (some .int)) (own := RJ9) (by decide +kernel) rfl (Nat.le_of_ble_eq_true rfl) rfl ?_
  intro p e s m args below meth cd ls hx hb hr hml hown hts hlocks hP hK hl
  have hl : lv_has ls 3 [(0, .int (nI a)), (1, .int (nI d))] := hl
  refine lv_iload_n hx hb dJ9_floorMod_7cf53_0 rfl (lv_at hl 0 rfl) ?_
  refine lv_iload_n hx hb dJ9_floorMod_7cf53_1 rfl (lv_at hl 1 rfl) ?_
  refine lv_irem hx hb dJ9_floorMod_7cf53_2 (nI_ne0 hd0 hd) ?_
  refine lv_istore_n (lv' := [(2, .int ((nI a - nI a / nI d * nI d))), (0, .int (nI a)), (1, .int (nI d))]) hx hb dJ9_floorMod_7cf53_3 rfl hl (by decide) rfl (fun ls hl => ?_)
  refine lv_iload_n hx hb dJ9_floorMod_7cf53_4 rfl (lv_at hl 1 rfl) ?_
  refine lv_iload_n hx hb dJ9_floorMod_7cf53_5 rfl (lv_at hl 2 rfl) ?_
  refine lv_ixor hx hb dJ9_floorMod_7cf53_6 ?_
  refine lv_if_ge (tgt := 18) hx hb dJ9_floorMod_7cf53_7 (by decide) (fun c1 => ?_) (fun c1 => ?_)
  · have d1 := Int32.not_lt.mpr c1
    refine lv_iload_n hx hb dJ9_floorMod_7cf53_18 rfl (lv_at hl 0 rfl) ?_
    exact zR_i hx hb hr hlocks dJ9_floorMod_7cf53_19 (by rw [pk_rem ha hd0 hd])
  · exact absurd (nI_xor0 ha hd) c1
set_option maxHeartbeats 4000000 in
set_option maxRecDepth 100000 in
theorem c_X1_weirAt (l : Launch) (D : va_G) (y : Nat → ClassId) (E : Nat → Nat) (t : Nat → Int32) (o : Nat → Nat) (q b : Fld) (c bc n : Nat) (ar fi re : Int32) (k : Nat) (hk : k < c) (hc : c ≤ 6) : zR l yX1_weirAt wsX1_weirAt { frames := 0, cells := 0, slots := 0, locals := 0 } D y [.ref (E 0), .int (nI k)] (eW E y t o q b c bc n ar fi re) (some (.ref (E (5 + k)))) := by
  refine zR.of (cc := cX1_weirAt) (maxL := 3) (ret := (some (.object "StakeWeirs$Weir"))) (own := RX1) (by decide) rfl (Nat.le_of_ble_eq_true rfl) rfl ?_
  intro p e s m args below meth cd ls hx hb hr hml hown hts hlocks hP hK hl
  have hl : lv_has ls 3 [(0, .ref (E 0)), (1, .int (nI k))] := hl
  have hf39 : (Cond.fieldLink RX1 39 "StakeWeirs$Estuary" "weirCount" "I").before args s = true := hts _ (by decide +kernel)
  have hinX1 : ∀ w ∈ wsX10, w ∈ wsX1_weirAt := by decide +kernel
  have hf20 : (Cond.fieldLink RX1 20 "StakeWeirs$Estuary" "weirs" "[LStakeWeirs$Weir;").before args s = true := hts _ (by decide +kernel)
  refine lv_iload_n hx hb dX1_weirAt_0 rfl (lv_at hl 1 rfl) ?_
  refine lv_if_lt (tgt := 25) hx hb dX1_weirAt_1 (by decide) (fun c1 => ?_) (fun c1 => ?_)
  · exact absurd c1 (nI_nlt (a := k) (b := 0) (by omega) (by omega))
  · have d1 := Int32.not_lt.mp c1
    refine lv_iload_n hx hb dX1_weirAt_4 rfl (lv_at hl 1 rfl) ?_
    refine lv_aload_n hx hb dX1_weirAt_5 rfl (lv_at hl 0 rfl) ?_
    refine va_get (D := D) (ci := 1) (v := .int (nI c)) (C := RX1) (T := TX1) (N := 10) hx hb hts hinX1 hown hK hP (0) rfl rfl 4 (by decide) hf39 (fun _ h9 => h9) rfl dX1_weirAt_6 ?_
    refine lv_icmp_ge (tgt := 25) hx hb dX1_weirAt_9 (by decide) (fun c2 => ?_) (fun c2 => ?_)
    · exact absurd c2 (nI_ge (a := k) (b := c) (by omega) (by omega))
    · have d2 := Int32.not_le.mp c2
      refine lv_iload_n hx hb dX1_weirAt_12 rfl (lv_at hl 1 rfl) ?_
      refine lv_aload_n hx hb dX1_weirAt_13 rfl (lv_at hl 0 rfl) ?_
      refine va_get (D := D) (ci := 1) (v := .ref (E 2)) (C := RX1) (T := TX1) (N := 10) hx hb hts hinX1 hown hK hP (0) rfl rfl 1 (by decide) hf20 (fun _ h9 => h9) rfl dX1_weirAt_14 ?_
      refine va_alen hx hb hK hP 2 1 (v := nI 6) rfl rfl rfl dX1_weirAt_17 ?_
      refine lv_icmp_ge (tgt := 25) hx hb dX1_weirAt_18 (by decide) (fun c3 => ?_) (fun c3 => ?_)
      · exact absurd c3 (nI_ge (a := k) (b := 6) (by omega) (by omega))
      · have d3 := Int32.not_le.mp c3
        refine lv_iconst (v := 1) hx hb dX1_weirAt_21 (by decide) ?_
        refine lv_goto (tgt := 26) hx hb dX1_weirAt_22 (by decide) ?_
        refine lv_istore_n (lv' := [(2, .int 1), (0, .ref (E 0)), (1, .int (nI k))]) hx hb dX1_weirAt_26 rfl hl (by decide) rfl (fun ls hl => ?_)
        refine lv_iload_n hx hb dX1_weirAt_27 rfl (lv_at hl 0 rfl) ?_
        refine lv_if_eq (tgt := 40) hx hb dX1_weirAt_28 (by decide) (fun c4 => ?_) (fun c4 => ?_)
        · exact absurd c4 (by decide)
        · have d4 := c4
          refine lv_aload_n hx hb dX1_weirAt_31 rfl (lv_at hl 1 rfl) ?_
          refine va_get (D := D) (ci := 1) (v := .ref (E 2)) (C := RX1) (T := TX1) (N := 10) hx hb hts hinX1 hown hK hP (0) rfl rfl 1 (by decide) hf20 (fun _ h9 => h9) rfl dX1_weirAt_32 ?_
          refine lv_iload_n hx hb dX1_weirAt_35 rfl (lv_at hl 2 rfl) ?_
          refine z_aldq hx hb hK hP 2 1 (j := 1) rfl rfl k (E (5 + k)) rfl (by omega) (by decide) rfl dX1_weirAt_36 ?_
          refine lv_goto (tgt := 41) hx hb dX1_weirAt_37 (by decide) ?_
          exact zR_a hx hb hr hlocks dX1_weirAt_41 (Or.inr ⟨_, rfl⟩) rfl
set_option maxHeartbeats 4000000 in
set_option maxRecDepth 100000 in
theorem c_X1_weirAt_no (l : Launch) (D : va_G) (y : Nat → ClassId) (E : Nat → Nat) (t : Nat → Int32) (o : Nat → Nat) (q b : Fld) (c bc n : Nat) (ar fi re : Int32) (x : Int32) (hx0 : x < 0 ∨ nI c ≤ x) (hc : c ≤ 6) : zR l yX1_weirAt wsX1_weirAt { frames := 0, cells := 0, slots := 0, locals := 0 } D y [.ref (E 0), .int x] (eW E y t o q b c bc n ar fi re) (some .null) := by
  refine zR.of (cc := cX1_weirAt) (maxL := 3) (ret := (some (.object "StakeWeirs$Weir"))) (own := RX1) (by decide) rfl (Nat.le_of_ble_eq_true rfl) rfl ?_
  intro p e s m args below meth cd ls hx hb hr hml hown hts hlocks hP hK hl
  have hl : lv_has ls 3 [(0, .ref (E 0)), (1, .int x)] := hl
  have hf39 : (Cond.fieldLink RX1 39 "StakeWeirs$Estuary" "weirCount" "I").before args s = true := hts _ (by decide +kernel)
  have hinX1 : ∀ w ∈ wsX10, w ∈ wsX1_weirAt := by decide +kernel
  refine lv_iload_n hx hb dX1_weirAt_0 rfl (lv_at hl 1 rfl) ?_
  refine lv_if_lt (tgt := 25) hx hb dX1_weirAt_1 (by decide) (fun c1 => ?_) (fun c1 => ?_)
  · have d1 := Int32.not_le.mpr c1
    refine lv_iconst (v := 0) hx hb dX1_weirAt_25 (by decide) ?_
    refine lv_istore_n (lv' := [(2, .int 0), (0, .ref (E 0)), (1, .int x)]) hx hb dX1_weirAt_26 rfl hl (by decide) rfl (fun ls hl => ?_)
    refine lv_iload_n hx hb dX1_weirAt_27 rfl (lv_at hl 0 rfl) ?_
    refine lv_if_eq (tgt := 40) hx hb dX1_weirAt_28 (by decide) (fun c2 => ?_) (fun c2 => ?_)
    · have d2 := c2
      refine lv_null hx hb dX1_weirAt_40 ?_
      exact zR_a hx hb hr hlocks dX1_weirAt_41 (Or.inl rfl) (by simp [c1, d1])
    · exact absurd (by decide) c2
  · have d1 := Int32.not_lt.mp c1
    refine lv_iload_n hx hb dX1_weirAt_4 rfl (lv_at hl 1 rfl) ?_
    refine lv_aload_n hx hb dX1_weirAt_5 rfl (lv_at hl 0 rfl) ?_
    refine va_get (D := D) (ci := 1) (v := .int (nI c)) (C := RX1) (T := TX1) (N := 10) hx hb hts hinX1 hown hK hP (0) rfl rfl 4 (by decide) hf39 (fun _ h9 => h9) rfl dX1_weirAt_6 ?_
    refine lv_icmp_ge (tgt := 25) hx hb dX1_weirAt_9 (by decide) (fun c3 => ?_) (fun c3 => ?_)
    · have d3 := Int32.not_lt.mpr c3
      refine lv_iconst (v := 0) hx hb dX1_weirAt_25 (by decide) ?_
      refine lv_istore_n (lv' := [(2, .int 0), (0, .ref (E 0)), (1, .int x)]) hx hb dX1_weirAt_26 rfl hl (by decide) rfl (fun ls hl => ?_)
      refine lv_iload_n hx hb dX1_weirAt_27 rfl (lv_at hl 0 rfl) ?_
      refine lv_if_eq (tgt := 40) hx hb dX1_weirAt_28 (by decide) (fun c4 => ?_) (fun c4 => ?_)
      · have d4 := c4
        refine lv_null hx hb dX1_weirAt_40 ?_
        exact zR_a hx hb hr hlocks dX1_weirAt_41 (Or.inl rfl) (by simp [c1, d1])
      · exact absurd (by decide) c4
    · exact absurd (hx0.resolve_left c1) c3
set_option maxHeartbeats 4000000 in
set_option maxRecDepth 100000 in
theorem c_X1_bargeAt (l : Launch) (D : va_G) (y : Nat → ClassId) (E : Nat → Nat) (t : Nat → Int32) (o : Nat → Nat) (q b : Fld) (c bc n : Nat) (ar fi re : Int32) (k : Nat) (hk : k < bc) (hbc : bc ≤ 5) : zR l yX1_bargeAt wsX1_bargeAt { frames := 0, cells := 0, slots := 0, locals := 0 } D y [.ref (E 0), .int (nI k)] (eW E y t o q b c bc n ar fi re) (some (.ref (E (11 + k)))) := by
  refine zR.of (cc := cX1_bargeAt) (maxL := 3) (ret := (some (.object "StakeWeirs$Barge"))) (own := RX1) (by decide) rfl (Nat.le_of_ble_eq_true rfl) rfl ?_
  intro p e s m args below meth cd ls hx hb hr hml hown hts hlocks hP hK hl
  have hl : lv_has ls 3 [(0, .ref (E 0)), (1, .int (nI k))] := hl
  have hf51 : (Cond.fieldLink RX1 51 "StakeWeirs$Estuary" "bargeCount" "I").before args s = true := hts _ (by decide +kernel)
  have hinX1 : ∀ w ∈ wsX10, w ∈ wsX1_bargeAt := by decide +kernel
  have hf27 : (Cond.fieldLink RX1 27 "StakeWeirs$Estuary" "barges" "[LStakeWeirs$Barge;").before args s = true := hts _ (by decide +kernel)
  refine lv_iload_n hx hb dX1_bargeAt_0 rfl (lv_at hl 1 rfl) ?_
  refine lv_if_lt (tgt := 25) hx hb dX1_bargeAt_1 (by decide) (fun c1 => ?_) (fun c1 => ?_)
  · exact absurd c1 (nI_nlt (a := k) (b := 0) (by omega) (by omega))
  · have d1 := Int32.not_lt.mp c1
    refine lv_iload_n hx hb dX1_bargeAt_4 rfl (lv_at hl 1 rfl) ?_
    refine lv_aload_n hx hb dX1_bargeAt_5 rfl (lv_at hl 0 rfl) ?_
    refine va_get (D := D) (ci := 1) (v := .int (nI bc)) (C := RX1) (T := TX1) (N := 10) hx hb hts hinX1 hown hK hP (0) rfl rfl 5 (by decide) hf51 (fun _ h9 => h9) rfl dX1_bargeAt_6 ?_
    refine lv_icmp_ge (tgt := 25) hx hb dX1_bargeAt_9 (by decide) (fun c2 => ?_) (fun c2 => ?_)
    · exact absurd c2 (nI_ge (a := k) (b := bc) (by omega) (by omega))
    · have d2 := Int32.not_le.mp c2
      refine lv_iload_n hx hb dX1_bargeAt_12 rfl (lv_at hl 1 rfl) ?_
      refine lv_aload_n hx hb dX1_bargeAt_13 rfl (lv_at hl 0 rfl) ?_
      refine va_get (D := D) (ci := 1) (v := .ref (E 4)) (C := RX1) (T := TX1) (N := 10) hx hb hts hinX1 hown hK hP (0) rfl rfl 3 (by decide) hf27 (fun _ h9 => h9) rfl dX1_bargeAt_14 ?_
      refine va_alen hx hb hK hP 4 2 (v := nI 5) rfl rfl rfl dX1_bargeAt_17 ?_
      refine lv_icmp_ge (tgt := 25) hx hb dX1_bargeAt_18 (by decide) (fun c3 => ?_) (fun c3 => ?_)
      · exact absurd c3 (nI_ge (a := k) (b := 5) (by omega) (by omega))
      · have d3 := Int32.not_le.mp c3
        refine lv_iconst (v := 1) hx hb dX1_bargeAt_21 (by decide) ?_
        refine lv_goto (tgt := 26) hx hb dX1_bargeAt_22 (by decide) ?_
        refine lv_istore_n (lv' := [(2, .int 1), (0, .ref (E 0)), (1, .int (nI k))]) hx hb dX1_bargeAt_26 rfl hl (by decide) rfl (fun ls hl => ?_)
        refine lv_iload_n hx hb dX1_bargeAt_27 rfl (lv_at hl 0 rfl) ?_
        refine lv_if_eq (tgt := 40) hx hb dX1_bargeAt_28 (by decide) (fun c4 => ?_) (fun c4 => ?_)
        · exact absurd c4 (by decide)
        · have d4 := c4
          refine lv_aload_n hx hb dX1_bargeAt_31 rfl (lv_at hl 1 rfl) ?_
          refine va_get (D := D) (ci := 1) (v := .ref (E 4)) (C := RX1) (T := TX1) (N := 10) hx hb hts hinX1 hown hK hP (0) rfl rfl 3 (by decide) hf27 (fun _ h9 => h9) rfl dX1_bargeAt_32 ?_
          refine lv_iload_n hx hb dX1_bargeAt_35 rfl (lv_at hl 2 rfl) ?_
          refine z_aldq hx hb hK hP 4 2 (j := 2) rfl rfl k (E (11 + k)) rfl (by omega) (by decide) rfl dX1_bargeAt_36 ?_
          refine lv_goto (tgt := 41) hx hb dX1_bargeAt_37 (by decide) ?_
          exact zR_a hx hb hr hlocks dX1_bargeAt_41 (Or.inr ⟨_, rfl⟩) rfl
set_option maxHeartbeats 4000000 in
set_option maxRecDepth 100000 in
theorem c_X1_bargeAt_no (l : Launch) (D : va_G) (y : Nat → ClassId) (E : Nat → Nat) (t : Nat → Int32) (o : Nat → Nat) (q b : Fld) (c bc n : Nat) (ar fi re : Int32) (x : Int32) (hx0 : x < 0 ∨ nI bc ≤ x) (hbc : bc ≤ 5) : zR l yX1_bargeAt wsX1_bargeAt { frames := 0, cells := 0, slots := 0, locals := 0 } D y [.ref (E 0), .int x] (eW E y t o q b c bc n ar fi re) (some .null) := by
  refine zR.of (cc := cX1_bargeAt) (maxL := 3) (ret := (some (.object "StakeWeirs$Barge"))) (own := RX1) (by decide) rfl (Nat.le_of_ble_eq_true rfl) rfl ?_
  intro p e s m args below meth cd ls hx hb hr hml hown hts hlocks hP hK hl
  have hl : lv_has ls 3 [(0, .ref (E 0)), (1, .int x)] := hl
  have hf51 : (Cond.fieldLink RX1 51 "StakeWeirs$Estuary" "bargeCount" "I").before args s = true := hts _ (by decide +kernel)
  have hinX1 : ∀ w ∈ wsX10, w ∈ wsX1_bargeAt := by decide +kernel
  refine lv_iload_n hx hb dX1_bargeAt_0 rfl (lv_at hl 1 rfl) ?_
  refine lv_if_lt (tgt := 25) hx hb dX1_bargeAt_1 (by decide) (fun c1 => ?_) (fun c1 => ?_)
  · have d1 := Int32.not_le.mpr c1
    refine lv_iconst (v := 0) hx hb dX1_bargeAt_25 (by decide) ?_
    refine lv_istore_n (lv' := [(2, .int 0), (0, .ref (E 0)), (1, .int x)]) hx hb dX1_bargeAt_26 rfl hl (by decide) rfl (fun ls hl => ?_)
    refine lv_iload_n hx hb dX1_bargeAt_27 rfl (lv_at hl 0 rfl) ?_
    refine lv_if_eq (tgt := 40) hx hb dX1_bargeAt_28 (by decide) (fun c2 => ?_) (fun c2 => ?_)
    · have d2 := c2
      refine lv_null hx hb dX1_bargeAt_40 ?_
      exact zR_a hx hb hr hlocks dX1_bargeAt_41 (Or.inl rfl) (by simp [c1, d1])
    · exact absurd (by decide) c2
  · have d1 := Int32.not_lt.mp c1
    refine lv_iload_n hx hb dX1_bargeAt_4 rfl (lv_at hl 1 rfl) ?_
    refine lv_aload_n hx hb dX1_bargeAt_5 rfl (lv_at hl 0 rfl) ?_
    refine va_get (D := D) (ci := 1) (v := .int (nI bc)) (C := RX1) (T := TX1) (N := 10) hx hb hts hinX1 hown hK hP (0) rfl rfl 5 (by decide) hf51 (fun _ h9 => h9) rfl dX1_bargeAt_6 ?_
    refine lv_icmp_ge (tgt := 25) hx hb dX1_bargeAt_9 (by decide) (fun c3 => ?_) (fun c3 => ?_)
    · have d3 := Int32.not_lt.mpr c3
      refine lv_iconst (v := 0) hx hb dX1_bargeAt_25 (by decide) ?_
      refine lv_istore_n (lv' := [(2, .int 0), (0, .ref (E 0)), (1, .int x)]) hx hb dX1_bargeAt_26 rfl hl (by decide) rfl (fun ls hl => ?_)
      refine lv_iload_n hx hb dX1_bargeAt_27 rfl (lv_at hl 0 rfl) ?_
      refine lv_if_eq (tgt := 40) hx hb dX1_bargeAt_28 (by decide) (fun c4 => ?_) (fun c4 => ?_)
      · have d4 := c4
        refine lv_null hx hb dX1_bargeAt_40 ?_
        exact zR_a hx hb hr hlocks dX1_bargeAt_41 (Or.inl rfl) (by simp [c1, d1])
      · exact absurd (by decide) c4
    · exact absurd (hx0.resolve_left c1) c3
set_option maxHeartbeats 4000000 in
set_option maxRecDepth 100000 in
theorem c_X1_inOrder (l : Launch) (D : va_G) (y : Nat → ClassId) (E : Nat → Nat) (t : Nat → Int32) (o : Nat → Nat) (q b : Fld) (c bc n : Nat) (ar fi re : Int32) (k : Nat) (hk : k < 6) : zR l yX1_inOrder wsX1_inOrder { frames := 0, cells := 0, slots := 0, locals := 0 } D y [.ref (E 0), .int (nI k)] (eW E y t o q b c bc n ar fi re) (some (.int (nI (o k)))) := by
  refine zR.of (cc := cX1_inOrder) (maxL := 2) (ret := (some .int)) (own := RX1) (by decide) rfl (Nat.le_of_ble_eq_true rfl) rfl ?_
  intro p e s m args below meth cd ls hx hb hr hml hown hts hlocks hP hK hl
  have hl : lv_has ls 2 [(0, .ref (E 0)), (1, .int (nI k))] := hl
  have hf15 : (Cond.fieldLink RX1 15 "StakeWeirs$Estuary" "order" "[I").before args s = true := hts _ (by decide +kernel)
  have hinX1 : ∀ w ∈ wsX10, w ∈ wsX1_inOrder := by decide +kernel
  refine lv_iload_n hx hb dX1_inOrder_0 rfl (lv_at hl 1 rfl) ?_
  refine lv_if_lt (tgt := 22) hx hb dX1_inOrder_1 (by decide) (fun c1 => ?_) (fun c1 => ?_)
  · exact absurd c1 (nI_nlt (a := k) (b := 0) (by omega) (by omega))
  · have d1 := Int32.not_lt.mp c1
    refine lv_iload_n hx hb dX1_inOrder_4 rfl (lv_at hl 1 rfl) ?_
    refine lv_aload_n hx hb dX1_inOrder_5 rfl (lv_at hl 0 rfl) ?_
    refine va_get (D := D) (ci := 1) (v := .ref (E 3)) (C := RX1) (T := TX1) (N := 10) hx hb hts hinX1 hown hK hP (0) rfl rfl 2 (by decide) hf15 (fun _ h9 => h9) rfl dX1_inOrder_6 ?_
    refine va_alen hx hb hK hP 3 0 (v := nI 6) rfl rfl rfl dX1_inOrder_9 ?_
    refine lv_icmp_ge (tgt := 22) hx hb dX1_inOrder_10 (by decide) (fun c2 => ?_) (fun c2 => ?_)
    · exact absurd c2 (nI_ge (a := k) (b := 6) (by omega) (by omega))
    · have d2 := Int32.not_le.mp c2
      refine lv_aload_n hx hb dX1_inOrder_13 rfl (lv_at hl 0 rfl) ?_
      refine va_get (D := D) (ci := 1) (v := .ref (E 3)) (C := RX1) (T := TX1) (N := 10) hx hb hts hinX1 hown hK hP (0) rfl rfl 2 (by decide) hf15 (fun _ h9 => h9) rfl dX1_inOrder_14 ?_
      refine lv_iload_n hx hb dX1_inOrder_17 rfl (lv_at hl 1 rfl) ?_
      refine z_ald hx hb hK hP 3 (f := (fun i => nI (o i))) rfl k rfl (by omega) (by decide) dX1_inOrder_18 ?_
      refine lv_goto (tgt := 23) hx hb dX1_inOrder_19 (by decide) ?_
      exact zR_i hx hb hr hlocks dX1_inOrder_23 rfl
set_option maxHeartbeats 4000000 in
set_option maxRecDepth 100000 in
theorem c_X1_tableEels (l : Launch) (D : va_G) (y : Nat → ClassId) (E : Nat → Nat) (t : Nat → Int32) (o : Nat → Nat) (q b : Fld) (c bc n : Nat) (ar fi re : Int32) (k : Nat) (hk : k < 7) : zR l yX1_tableEels wsX1_tableEels { frames := 0, cells := 0, slots := 0, locals := 0 } D y [.ref (E 0), .int (nI k)] (eW E y t o q b c bc n ar fi re) (some (.int (t k))) := by
  refine zR.of (cc := cX1_tableEels) (maxL := 2) (ret := (some .int)) (own := RX1) (by decide) rfl (Nat.le_of_ble_eq_true rfl) rfl ?_
  intro p e s m args below meth cd ls hx hb hr hml hown hts hlocks hP hK hl
  have hl : lv_has ls 2 [(0, .ref (E 0)), (1, .int (nI k))] := hl
  have hf9 : (Cond.fieldLink RX1 9 "StakeWeirs$Estuary" "table" "[I").before args s = true := hts _ (by decide +kernel)
  have hinX1 : ∀ w ∈ wsX10, w ∈ wsX1_tableEels := by decide +kernel
  refine lv_iload_n hx hb dX1_tableEels_0 rfl (lv_at hl 1 rfl) ?_
  refine lv_if_lt (tgt := 22) hx hb dX1_tableEels_1 (by decide) (fun c1 => ?_) (fun c1 => ?_)
  · exact absurd c1 (nI_nlt (a := k) (b := 0) (by omega) (by omega))
  · have d1 := Int32.not_lt.mp c1
    refine lv_iload_n hx hb dX1_tableEels_4 rfl (lv_at hl 1 rfl) ?_
    refine lv_aload_n hx hb dX1_tableEels_5 rfl (lv_at hl 0 rfl) ?_
    refine va_get (D := D) (ci := 1) (v := .ref (E 1)) (C := RX1) (T := TX1) (N := 10) hx hb hts hinX1 hown hK hP (0) rfl rfl 0 (by decide) hf9 (fun _ h9 => h9) rfl dX1_tableEels_6 ?_
    refine va_alen hx hb hK hP 1 0 (v := nI 7) rfl rfl rfl dX1_tableEels_9 ?_
    refine lv_icmp_ge (tgt := 22) hx hb dX1_tableEels_10 (by decide) (fun c2 => ?_) (fun c2 => ?_)
    · exact absurd c2 (nI_ge (a := k) (b := 7) (by omega) (by omega))
    · have d2 := Int32.not_le.mp c2
      refine lv_aload_n hx hb dX1_tableEels_13 rfl (lv_at hl 0 rfl) ?_
      refine va_get (D := D) (ci := 1) (v := .ref (E 1)) (C := RX1) (T := TX1) (N := 10) hx hb hts hinX1 hown hK hP (0) rfl rfl 0 (by decide) hf9 (fun _ h9 => h9) rfl dX1_tableEels_14 ?_
      refine lv_iload_n hx hb dX1_tableEels_17 rfl (lv_at hl 1 rfl) ?_
      refine z_ald hx hb hK hP 1 (f := t) rfl k rfl (by omega) (by decide) dX1_tableEels_18 ?_
      refine lv_goto (tgt := 23) hx hb dX1_tableEels_19 (by decide) ?_
      exact zR_i hx hb hr hlocks dX1_tableEels_23 rfl
set_option maxHeartbeats 4000000 in
set_option maxRecDepth 100000 in
theorem c_X1_isSeawardsOf (l : Launch) (D : va_G) (y : Nat → ClassId) (E : Nat → Nat) (t : Nat → Int32) (o : Nat → Nat) (q b : Fld) (c bc n : Nat) (ar fi re : Int32) (k : Nat) (x : Int32) (hk : k < c) (hc : c ≤ 6) : zR l yX1_isSeawardsOf wsX1_isSeawardsOf { frames := 1, cells := 0, slots := 0, locals := 22 } D y [.ref (E 0), .int (nI k), .int x] (eW E y t o q b c bc n ar fi re) (some (.int (zb (decide (q 0 k < x))))) := by
  refine zR.of (cc := cX1_isSeawardsOf) (maxL := 4) (ret := (some .boolean)) (own := RX1) (by decide) rfl (Nat.le_of_ble_eq_true rfl) rfl ?_
  intro p e s m args below meth cd ls hx hb hr hml hown hts hlocks hP hK hl
  have hl : lv_has ls 4 [(0, .ref (E 0)), (1, .int (nI k)), (2, .int x)] := hl
  have hf93 : (Cond.fieldLink RX1 93 "StakeWeirs$Weir" "place" "I").before args s = true := hts _ (by decide +kernel)
  have hinX2 : ∀ w ∈ wsX20, w ∈ wsX1_isSeawardsOf := by decide +kernel
  refine lv_aload_n hx hb dX1_isSeawardsOf_0 rfl (lv_at hl 0 rfl) ?_
  refine lv_iload_n hx hb dX1_isSeawardsOf_1 rfl (lv_at hl 1 rfl) ?_
  refine zcRV (As := [.int (nI k)]) (rest := []) (st1 := [.ref (E (5 + k))]) ⟨hx, hb, hml, hown, hts⟩ (c_X1_weirAt l D y E t o q b c bc n ar fi re k (by omega) (by omega)) (cwV 1 hts gX1_isSeawardsOf_X1_weirAt rfl rfl rfl (by decide +kernel) ⟨Nat.le_of_ble_eq_true rfl, Nat.le_of_ble_eq_true rfl⟩) hK hP (ci := 1) (q0 := 0) rfl rfl rfl rfl hl.1 rfl (lv_room (Nat.le_of_ble_eq_true rfl)) dX1_isSeawardsOf_2 ⟨Nat.le_of_ble_eq_true rfl, Nat.le_of_ble_eq_true rfl⟩ rfl ?_
  refine lv_astore_n (lv' := [(3, .ref (E (5 + k))), (0, .ref (E 0)), (1, .int (nI k)), (2, .int x)]) hx hb dX1_isSeawardsOf_5 rfl hl (by decide) rfl (fun ls hl => ?_)
  refine lv_aload_n hx hb dX1_isSeawardsOf_6 rfl (lv_at hl 0 rfl) ?_
  refine lv_ifnull hx hb dX1_isSeawardsOf_7 ?_
  refine lv_aload_n hx hb dX1_isSeawardsOf_10 rfl (lv_at hl 0 rfl) ?_
  refine va_get (D := D) (ci := 2) (v := .int ((q 0 k))) (C := RX2) (T := TX2) (N := 8) hx hb hts hinX2 hown hK hP (5 + k) (eW_w (by omega)) rfl 0 (by decide) hf93 (fun _ h9 => h9) rfl dX1_isSeawardsOf_11 ?_
  refine lv_iload_n hx hb dX1_isSeawardsOf_14 rfl (lv_at hl 3 rfl) ?_
  refine lv_icmp_ge (tgt := 22) hx hb dX1_isSeawardsOf_15 (by decide) (fun c1 => ?_) (fun c1 => ?_)
  · have d1 := Int32.not_lt.mpr c1
    refine lv_iconst (v := 0) hx hb dX1_isSeawardsOf_22 (by decide) ?_
    exact zR_z hx hb hr hlocks dX1_isSeawardsOf_23 (Or.inl rfl) (by simp [zb, c1, d1])
  · have d1 := Int32.not_le.mp c1
    refine lv_iconst (v := 1) hx hb dX1_isSeawardsOf_18 (by decide) ?_
    refine lv_goto (tgt := 23) hx hb dX1_isSeawardsOf_19 (by decide) ?_
    exact zR_z hx hb hr hlocks dX1_isSeawardsOf_23 (Or.inr rfl) (by simp [zb, c1, d1])
set_option maxHeartbeats 4000000 in
set_option maxRecDepth 100000 in
theorem c_X1_moon (l : Launch) (D : va_G) (y : Nat → ClassId) (E : Nat → Nat) (t : Nat → Int32) (o : Nat → Nat) (q b : Fld) (c bc n : Nat) (ar fi re : Int32) (hn : n < 2147483648) : zR l yX1_moon wsX1_moon { frames := 1, cells := 0, slots := 0, locals := 22 } D y [.ref (E 0)] (eW E y t o q b c bc n ar fi re) (some (.int (moonI n))) := by
  refine zR.of (cc := cX1_moon) (maxL := 2) (ret := (some .int)) (own := RX1) (by decide) rfl (Nat.le_of_ble_eq_true rfl) rfl ?_
  intro p e s m args below meth cd ls hx hb hr hml hown hts hlocks hP hK hl
  have hl : lv_has ls 2 [(0, .ref (E 0))] := hl
  have hf62 : (Cond.fieldLink RX1 62 "StakeWeirs$Estuary" "night" "I").before args s = true := hts _ (by decide +kernel)
  have hinX1 : ∀ w ∈ wsX10, w ∈ wsX1_moon := by decide +kernel
  refine lv_aload_n hx hb dX1_moon_0 rfl (lv_at hl 0 rfl) ?_
  refine va_get (D := D) (ci := 1) (v := .int (nI n)) (C := RX1) (T := TX1) (N := 10) hx hb hts hinX1 hown hK hP (0) rfl rfl 6 (by decide) hf62 (fun _ h9 => h9) rfl dX1_moon_1 ?_
  refine lv_bipush (v := 28) hx hb dX1_moon_4 (by decide) ?_
  refine zcRS (As := [.int (nI n), .int 28]) (rest := []) (st1 := [.int (nI (n % 28))]) ⟨hx, hb, hml, hown, hts⟩ (c_J9_floorMod_7cf53 l D y n 28 (by omega) (by omega) (by omega)) (va_cwS 2 hts gX1_moon_J9_floorMod_7cf53 rfl rfl rfl (by decide +kernel) ⟨Nat.le_of_ble_eq_true rfl, Nat.le_of_ble_eq_true rfl⟩) hK va_P_nil rfl hl.1 rfl (lv_room (Nat.le_of_ble_eq_true rfl)) dX1_moon_6 ⟨Nat.le_of_ble_eq_true rfl, Nat.le_of_ble_eq_true rfl⟩ rfl ?_
  refine lv_istore_n (lv' := [(1, .int (nI (n % 28))), (0, .ref (E 0))]) hx hb dX1_moon_9 rfl hl (by decide) rfl (fun ls hl => ?_)
  refine lv_iload_n hx hb dX1_moon_10 rfl (lv_at hl 0 rfl) ?_
  refine lv_iconst (v := 3) hx hb dX1_moon_11 (by decide) ?_
  refine lv_icmp_le (tgt := 21) hx hb dX1_moon_12 (by decide) (fun c1 => ?_) (fun c1 => ?_)
  · have d1 := Int32.not_lt.mpr c1
    refine lv_iconst (v := 0) hx hb dX1_moon_21 (by decide) ?_
    exact zR_i hx hb hr hlocks dX1_moon_22 (by simp [moonI, moonD, c1, d1])
  · have d1 := Int32.not_le.mp c1
    refine lv_iload_n hx hb dX1_moon_15 rfl (lv_at hl 0 rfl) ?_
    refine lv_bipush (v := 25) hx hb dX1_moon_16 (by decide) ?_
    refine lv_icmp_lt (tgt := 23) hx hb dX1_moon_18 (by decide) (fun c2 => ?_) (fun c2 => ?_)
    · have d2 := Int32.not_le.mpr c2
      refine lv_iload_n hx hb dX1_moon_23 rfl (lv_at hl 0 rfl) ?_
      refine lv_bipush (v := 9) hx hb dX1_moon_24 (by decide) ?_
      refine lv_icmp_le (tgt := 35) hx hb dX1_moon_26 (by decide) (fun c3 => ?_) (fun c3 => ?_)
      · have d3 := Int32.not_lt.mpr c3
        refine lv_iconst (v := 1) hx hb dX1_moon_35 (by decide) ?_
        refine lv_goto (tgt := 40) hx hb dX1_moon_36 (by decide) ?_
        exact zR_i hx hb hr hlocks dX1_moon_40 (by simp [moonI, moonD, c1, d1, c2, d2, c3, d3])
      · have d3 := Int32.not_le.mp c3
        refine lv_iload_n hx hb dX1_moon_29 rfl (lv_at hl 0 rfl) ?_
        refine lv_bipush (v := 19) hx hb dX1_moon_30 (by decide) ?_
        refine lv_icmp_lt (tgt := 39) hx hb dX1_moon_32 (by decide) (fun c4 => ?_) (fun c4 => ?_)
        · have d4 := Int32.not_le.mpr c4
          refine lv_iconst (v := 2) hx hb dX1_moon_39 (by decide) ?_
          exact zR_i hx hb hr hlocks dX1_moon_40 (by simp [moonI, moonD, c1, d1, c2, d2, c3, d3, c4, d4])
        · have d4 := Int32.not_lt.mp c4
          refine lv_iconst (v := 1) hx hb dX1_moon_35 (by decide) ?_
          refine lv_goto (tgt := 40) hx hb dX1_moon_36 (by decide) ?_
          exact zR_i hx hb hr hlocks dX1_moon_40 (by simp [moonI, moonD, c1, d1, c2, d2, c3, d3, c4, d4])
    · have d2 := Int32.not_lt.mp c2
      refine lv_iconst (v := 0) hx hb dX1_moon_21 (by decide) ?_
      exact zR_i hx hb hr hlocks dX1_moon_22 (by simp [moonI, moonD, c1, d1, c2, d2])
set_option maxHeartbeats 4000000 in
set_option maxRecDepth 100000 in
theorem c_X1_run (l : Launch) (D : va_G) (y : Nat → ClassId) (E : Nat → Nat) (t : Nat → Int32) (o : Nat → Nat) (q b : Fld) (c bc n : Nat) (ar fi re : Int32) (hn : n < 2147483648) : zR l yX1_run wsX1_run { frames := 2, cells := 0, slots := 0, locals := 43 } D y [.ref (E 0)] (eW E y t o q b c bc n ar fi re) (some (.int (runI t n))) := by
  refine zR.of (cc := cX1_run) (maxL := 3) (ret := (some .int)) (own := RX1) (by decide) rfl (Nat.le_of_ble_eq_true rfl) rfl ?_
  intro p e s m args below meth cd ls hx hb hr hml hown hts hlocks hP hK hl
  have hl : lv_has ls 3 [(0, .ref (E 0))] := hl
  have hf62 : (Cond.fieldLink RX1 62 "StakeWeirs$Estuary" "night" "I").before args s = true := hts _ (by decide +kernel)
  have hinX1 : ∀ w ∈ wsX10, w ∈ wsX1_run := by decide +kernel
  refine lv_aload_n hx hb dX1_run_0 rfl (lv_at hl 0 rfl) ?_
  refine lv_aload_n hx hb dX1_run_1 rfl (lv_at hl 0 rfl) ?_
  refine va_get (D := D) (ci := 1) (v := .int (nI n)) (C := RX1) (T := TX1) (N := 10) hx hb hts hinX1 hown hK hP (0) rfl rfl 6 (by decide) hf62 (fun _ h9 => h9) rfl dX1_run_2 ?_
  refine lv_bipush (v := 7) hx hb dX1_run_5 (by decide) ?_
  refine zcRS (As := [.int (nI n), .int 7]) (rest := [.ref (E 0)]) (st1 := [.int (nI (n % 7)), .ref (E 0)]) ⟨hx, hb, hml, hown, hts⟩ (c_J9_floorMod_7cf53 l D y n 7 (by omega) (by omega) (by omega)) (va_cwS 2 hts gX1_run_J9_floorMod_7cf53 rfl rfl rfl (by decide +kernel) ⟨Nat.le_of_ble_eq_true rfl, Nat.le_of_ble_eq_true rfl⟩) hK va_P_nil rfl hl.1 rfl (lv_room (Nat.le_of_ble_eq_true rfl)) dX1_run_7 ⟨Nat.le_of_ble_eq_true rfl, Nat.le_of_ble_eq_true rfl⟩ rfl ?_
  refine zcRV (As := [.int (nI (n % 7))]) (rest := []) (st1 := [.int ((t (n % 7)))]) ⟨hx, hb, hml, hown, hts⟩ (c_X1_tableEels l D y E t o q b c bc n ar fi re (n % 7) (by omega)) (cwV 1 hts gX1_run_X1_tableEels rfl rfl rfl (by decide +kernel) ⟨Nat.le_of_ble_eq_true rfl, Nat.le_of_ble_eq_true rfl⟩) hK hP (ci := 1) (q0 := 0) rfl rfl rfl rfl hl.1 rfl (lv_room (Nat.le_of_ble_eq_true rfl)) dX1_run_10 ⟨Nat.le_of_ble_eq_true rfl, Nat.le_of_ble_eq_true rfl⟩ rfl ?_
  refine lv_istore_n (lv' := [(1, .int ((t (n % 7)))), (0, .ref (E 0))]) hx hb dX1_run_13 rfl hl (by decide) rfl (fun ls hl => ?_)
  refine lv_aload_n hx hb dX1_run_14 rfl (lv_at hl 1 rfl) ?_
  refine zcRV (As := []) (rest := []) (st1 := [.int ((moonI n))]) ⟨hx, hb, hml, hown, hts⟩ (c_X1_moon l D y E t o q b c bc n ar fi re  (by omega)) (cwV 0 hts gX1_run_X1_moon rfl rfl rfl (by decide +kernel) ⟨Nat.le_of_ble_eq_true rfl, Nat.le_of_ble_eq_true rfl⟩) hK hP (ci := 1) (q0 := 0) rfl rfl rfl rfl hl.1 rfl (lv_room (Nat.le_of_ble_eq_true rfl)) dX1_run_15 ⟨Nat.le_of_ble_eq_true rfl, Nat.le_of_ble_eq_true rfl⟩ rfl ?_
  refine lv_istore_n (lv' := [(2, .int ((moonI n))), (1, .int ((t (n % 7)))), (0, .ref (E 0))]) hx hb dX1_run_18 rfl hl (by decide) rfl (fun ls hl => ?_)
  refine lv_iload_n hx hb dX1_run_19 rfl (lv_at hl 0 rfl) ?_
  refine lv_if_ne (tgt := 27) hx hb dX1_run_20 (by decide) (fun c1 => ?_) (fun c1 => ?_)
  · have d1 := c1
    refine lv_iload_n hx hb dX1_run_27 rfl (lv_at hl 0 rfl) ?_
    refine lv_iconst (v := 1) hx hb dX1_run_28 (by decide) ?_
    refine lv_icmp_ne (tgt := 38) hx hb dX1_run_29 (by decide) (fun c2 => ?_) (fun c2 => ?_)
    · have d2 := c2
      refine lv_iload_n hx hb dX1_run_38 rfl (lv_at hl 1 rfl) ?_
      exact zR_i hx hb hr hlocks dX1_run_39 (by simp [runI, c1, d1, c2, d2])
    · have d2 := c2
      refine lv_iconst (v := 2) hx hb dX1_run_32 (by decide) ?_
      refine lv_iload_n hx hb dX1_run_33 rfl (lv_at hl 1 rfl) ?_
      refine lv_imul hx hb dX1_run_34 ?_
      refine lv_goto (tgt := 39) hx hb dX1_run_35 (by decide) ?_
      exact zR_i hx hb hr hlocks dX1_run_39 (by simp [runI, c1, d1, c2, d2])
  · have d1 := c1
    refine lv_iconst (v := 3) hx hb dX1_run_23 (by decide) ?_
    refine lv_iload_n hx hb dX1_run_24 rfl (lv_at hl 1 rfl) ?_
    refine lv_imul hx hb dX1_run_25 ?_
    exact zR_i hx hb hr hlocks dX1_run_26 (by simp [runI, c1, d1])
theorem heldN_s (q : Fld) (c : Nat) : heldN q (c + 1) = (if heldB q c = true then heldN q c + 1 else heldN q c) := rfl
theorem wattleN_s (q : Fld) (c : Nat) : wattleN q (c + 1) = (if heldB q c = true then wattleN q c + q 2 c else wattleN q c) := rfl
theorem eelsN_s (q : Fld) (c : Nat) : eelsN q (c + 1) = eelsN q c + q 5 c := rfl
theorem wayN_s (q : Fld) (c : Nat) (w : Int32) : wayN q (c + 1) w = (if wayB q c w = true then wayN q c w + 1 else wayN q c w) := rfl
theorem richE_s (q : Fld) (c : Nat) : richE q (c + 1) = richS q c (richE q c) := rfl
theorem nextE_s (q : Fld) (c : Nat) (bp bw : Int32) : nextE q (c + 1) bp bw = nextS q bp bw c (nextE q c bp bw) := rfl
def underE (b : Fld) : Nat → Int32 → Bool
  | 0, _ => false
  | n + 1, x => underE b n x || decide (b 0 n = x)
set_option maxHeartbeats 4000000 in
set_option maxRecDepth 100000 in
theorem c_X1_heldWeirs (l : Launch) (D : va_G) (y : Nat → ClassId) (E : Nat → Nat) (t : Nat → Int32) (o : Nat → Nat) (q b : Fld) (c bc n : Nat) (ar fi re : Int32) (hc : c ≤ 6) : zR l yX1_heldWeirs wsX1_heldWeirs { frames := 1, cells := 0, slots := 0, locals := 22 } D y [.ref (E 0)] (eW E y t o q b c bc n ar fi re) (some (.int (heldN q c))) := by
  refine zR.of (cc := cX1_heldWeirs) (maxL := 4) (ret := (some .int)) (own := RX1) (by decide) rfl (Nat.le_of_ble_eq_true rfl) rfl ?_
  intro p e s m args below meth cd ls hx hb hr hml hown hts hlocks hP hK hl
  have hl : lv_has ls 4 [(0, .ref (E 0))] := hl
  have hf39 : (Cond.fieldLink RX1 39 "StakeWeirs$Estuary" "weirCount" "I").before args s = true := hts _ (by decide +kernel)
  have hinX1 : ∀ w ∈ wsX10, w ∈ wsX1_heldWeirs := by decide +kernel
  refine lv_iconst (v := 0) hx hb dX1_heldWeirs_0 (by decide) ?_
  refine lv_istore_n (lv' := [(1, .int 0), (0, .ref (E 0))]) hx hb dX1_heldWeirs_1 rfl hl (by decide) rfl (fun ls hl => ?_)
  refine lv_iconst (v := 0) hx hb dX1_heldWeirs_2 (by decide) ?_
  refine lv_istore_n (lv' := [(2, .int 0), (1, .int 0), (0, .ref (E 0))]) hx hb dX1_heldWeirs_3 rfl hl (by decide) rfl (fun ls hl => ?_)
  have loop1 : ∀ k, k ≤ c → ∀ (ls : Array Slot), lv_has ls 4 [(2, .int (nI k)), (1, .int (heldN q k)), (0, .ref (E 0))] → W p l e ({ frames := 1, cells := 0, slots := 0, locals := 22 } : Room) s m args below meth cd s.heap [] 0 0 (MQ below (zRQ (some (.int (heldN q c)))) args s 0 0 (fun _ => False)) (F0 m 4 ls []) := by
    refine down ?_ ?_
    · intro ls hl
      refine lv_iload_n hx hb dX1_heldWeirs_4 rfl (lv_at hl 0 rfl) ?_
      refine lv_aload_n hx hb dX1_heldWeirs_5 rfl (lv_at hl 2 rfl) ?_
      refine va_get (D := D) (ci := 1) (v := .int (nI c)) (C := RX1) (T := TX1) (N := 10) hx hb hts hinX1 hown hK hP (0) rfl rfl 4 (by decide) hf39 (fun _ h9 => h9) rfl dX1_heldWeirs_6 ?_
      refine lv_icmp_ge (tgt := 38) hx hb dX1_heldWeirs_9 (by decide) (fun c2 => ?_) (fun c2 => ?_)
      · have d2 := Int32.not_lt.mpr c2
        refine lv_iload_n hx hb dX1_heldWeirs_38 rfl (lv_at hl 1 rfl) ?_
        exact zR_i hx hb hr hlocks dX1_heldWeirs_39 rfl
      · exact absurd (nI_le (a := c) (b := c) (by omega) (by omega)) c2
    · intro k hkk ihk ls hl
      refine lv_iload_n hx hb dX1_heldWeirs_4 rfl (lv_at hl 0 rfl) ?_
      refine lv_aload_n hx hb dX1_heldWeirs_5 rfl (lv_at hl 2 rfl) ?_
      refine va_get (D := D) (ci := 1) (v := .int (nI c)) (C := RX1) (T := TX1) (N := 10) hx hb hts hinX1 hown hK hP (0) rfl rfl 4 (by decide) hf39 (fun _ h9 => h9) rfl dX1_heldWeirs_6 ?_
      refine lv_icmp_ge (tgt := 38) hx hb dX1_heldWeirs_9 (by decide) (fun c3 => ?_) (fun c3 => ?_)
      · exact absurd c3 (nI_ge (a := k) (b := c) (by omega) (by omega))
      · have d3 := Int32.not_le.mp c3
        refine lv_aload_n hx hb dX1_heldWeirs_12 rfl (lv_at hl 2 rfl) ?_
        refine lv_iload_n hx hb dX1_heldWeirs_13 rfl (lv_at hl 0 rfl) ?_
        refine zcRV (As := [.int (nI k)]) (rest := []) (st1 := [.ref (E (5 + k))]) ⟨hx, hb, hml, hown, hts⟩ (c_X1_weirAt l D y E t o q b c bc n ar fi re k (by omega) (by omega)) (cwV 1 hts gX1_heldWeirs_X1_weirAt rfl rfl rfl (by decide +kernel) ⟨Nat.le_of_ble_eq_true rfl, Nat.le_of_ble_eq_true rfl⟩) hK hP (ci := 1) (q0 := 0) rfl rfl rfl rfl hl.1 rfl (lv_room (Nat.le_of_ble_eq_true rfl)) dX1_heldWeirs_14 ⟨Nat.le_of_ble_eq_true rfl, Nat.le_of_ble_eq_true rfl⟩ rfl ?_
        refine lv_astore_n (lv' := [(3, .ref (E (5 + k))), (2, .int (nI k)), (1, .int (heldN q k)), (0, .ref (E 0))]) hx hb dX1_heldWeirs_17 rfl hl (by decide) rfl (fun ls hl => ?_)
        refine lv_aload_n hx hb dX1_heldWeirs_18 rfl (lv_at hl 0 rfl) ?_
        refine lv_ifnull hx hb dX1_heldWeirs_19 ?_
        refine lv_aload_n hx hb dX1_heldWeirs_22 rfl (lv_at hl 0 rfl) ?_
        refine zcRV (As := []) (rest := []) (st1 := [.int (zb (heldB q k))]) ⟨hx, hb, hml, hown, hts⟩ (c_X2_isHeld l D y (E (5 + k)) q k) (cwV 0 hts gX1_heldWeirs_X2_isHeld rfl rfl rfl (by decide +kernel) ⟨Nat.le_of_ble_eq_true rfl, Nat.le_of_ble_eq_true rfl⟩) hK (z_sub_P hP (z_in_1 (k := 5 + k) (eW_w (by omega)))) (ci := 2) (q0 := 0) rfl rfl rfl rfl hl.1 rfl (lv_room (Nat.le_of_ble_eq_true rfl)) dX1_heldWeirs_23 ⟨Nat.le_of_ble_eq_true rfl, Nat.le_of_ble_eq_true rfl⟩ rfl ?_
        refine lv_if_eq (tgt := 32) hx hb dX1_heldWeirs_26 (by decide) (fun c4 => ?_) (fun c4 => ?_)
        · have c4 : heldB q k = false := zb_f c4
          refine lv_iinc (v := nI (k + 1)) (lv' := [(2, .int (nI (k + 1))), (3, .ref (E (5 + k))), (1, .int (heldN q k)), (0, .ref (E 0))]) hx hb dX1_heldWeirs_32 hl (k := 1) rfl (nI_1 _) (by decide) rfl (fun ls hl => ?_)
          refine lv_goto (tgt := 4) hx hb dX1_heldWeirs_35 (by decide) ?_
          have e5 : heldN q (k + 1) = heldN q k := by simp [heldN_s, c4]
          refine ihk ls ?_
          simp only [e5]
          exact lv_sub hl [0, 2, 3] rfl
        · have c4 : heldB q k = true := zb_t c4
          refine lv_iinc (v := (heldN q k + 1)) (lv' := [(1, .int ((heldN q k + 1))), (3, .ref (E (5 + k))), (2, .int (nI k)), (0, .ref (E 0))]) hx hb dX1_heldWeirs_29 hl (k := 2) rfl rfl (by decide) rfl (fun ls hl => ?_)
          refine lv_iinc (v := nI (k + 1)) (lv' := [(2, .int (nI (k + 1))), (1, .int ((heldN q k + 1))), (3, .ref (E (5 + k))), (0, .ref (E 0))]) hx hb dX1_heldWeirs_32 hl (k := 2) rfl (nI_1 _) (by decide) rfl (fun ls hl => ?_)
          refine lv_goto (tgt := 4) hx hb dX1_heldWeirs_35 (by decide) ?_
          have e6 : heldN q (k + 1) = (heldN q k + 1) := by simp [heldN_s, c4]
          refine ihk ls ?_
          simp only [e6]
          exact lv_sub hl [0, 1, 3] rfl
  exact loop1 0 (Nat.zero_le _) ls (lv_sub hl [0, 1, 2] rfl)
set_option maxHeartbeats 4000000 in
set_option maxRecDepth 100000 in
theorem c_X1_heldWattle (l : Launch) (D : va_G) (y : Nat → ClassId) (E : Nat → Nat) (t : Nat → Int32) (o : Nat → Nat) (q b : Fld) (c bc n : Nat) (ar fi re : Int32) (hc : c ≤ 6) : zR l yX1_heldWattle wsX1_heldWattle { frames := 1, cells := 0, slots := 0, locals := 22 } D y [.ref (E 0)] (eW E y t o q b c bc n ar fi re) (some (.int (wattleN q c))) := by
  refine zR.of (cc := cX1_heldWattle) (maxL := 4) (ret := (some .int)) (own := RX1) (by decide) rfl (Nat.le_of_ble_eq_true rfl) rfl ?_
  intro p e s m args below meth cd ls hx hb hr hml hown hts hlocks hP hK hl
  have hl : lv_has ls 4 [(0, .ref (E 0))] := hl
  have hf39 : (Cond.fieldLink RX1 39 "StakeWeirs$Estuary" "weirCount" "I").before args s = true := hts _ (by decide +kernel)
  have hinX1 : ∀ w ∈ wsX10, w ∈ wsX1_heldWattle := by decide +kernel
  have hf135 : (Cond.fieldLink RX1 135 "StakeWeirs$Weir" "wattle" "I").before args s = true := hts _ (by decide +kernel)
  have hinX2 : ∀ w ∈ wsX20, w ∈ wsX1_heldWattle := by decide +kernel
  refine lv_iconst (v := 0) hx hb dX1_heldWattle_0 (by decide) ?_
  refine lv_istore_n (lv' := [(1, .int 0), (0, .ref (E 0))]) hx hb dX1_heldWattle_1 rfl hl (by decide) rfl (fun ls hl => ?_)
  refine lv_iconst (v := 0) hx hb dX1_heldWattle_2 (by decide) ?_
  refine lv_istore_n (lv' := [(2, .int 0), (1, .int 0), (0, .ref (E 0))]) hx hb dX1_heldWattle_3 rfl hl (by decide) rfl (fun ls hl => ?_)
  have loop1 : ∀ k, k ≤ c → ∀ (ls : Array Slot), lv_has ls 4 [(2, .int (nI k)), (1, .int (wattleN q k)), (0, .ref (E 0))] → W p l e ({ frames := 1, cells := 0, slots := 0, locals := 22 } : Room) s m args below meth cd s.heap [] 0 0 (MQ below (zRQ (some (.int (wattleN q c)))) args s 0 0 (fun _ => False)) (F0 m 4 ls []) := by
    refine down ?_ ?_
    · intro ls hl
      refine lv_iload_n hx hb dX1_heldWattle_4 rfl (lv_at hl 0 rfl) ?_
      refine lv_aload_n hx hb dX1_heldWattle_5 rfl (lv_at hl 2 rfl) ?_
      refine va_get (D := D) (ci := 1) (v := .int (nI c)) (C := RX1) (T := TX1) (N := 10) hx hb hts hinX1 hown hK hP (0) rfl rfl 4 (by decide) hf39 (fun _ h9 => h9) rfl dX1_heldWattle_6 ?_
      refine lv_icmp_ge (tgt := 42) hx hb dX1_heldWattle_9 (by decide) (fun c2 => ?_) (fun c2 => ?_)
      · have d2 := Int32.not_lt.mpr c2
        refine lv_iload_n hx hb dX1_heldWattle_42 rfl (lv_at hl 1 rfl) ?_
        exact zR_i hx hb hr hlocks dX1_heldWattle_43 rfl
      · exact absurd (nI_le (a := c) (b := c) (by omega) (by omega)) c2
    · intro k hkk ihk ls hl
      refine lv_iload_n hx hb dX1_heldWattle_4 rfl (lv_at hl 0 rfl) ?_
      refine lv_aload_n hx hb dX1_heldWattle_5 rfl (lv_at hl 2 rfl) ?_
      refine va_get (D := D) (ci := 1) (v := .int (nI c)) (C := RX1) (T := TX1) (N := 10) hx hb hts hinX1 hown hK hP (0) rfl rfl 4 (by decide) hf39 (fun _ h9 => h9) rfl dX1_heldWattle_6 ?_
      refine lv_icmp_ge (tgt := 42) hx hb dX1_heldWattle_9 (by decide) (fun c3 => ?_) (fun c3 => ?_)
      · exact absurd c3 (nI_ge (a := k) (b := c) (by omega) (by omega))
      · have d3 := Int32.not_le.mp c3
        refine lv_aload_n hx hb dX1_heldWattle_12 rfl (lv_at hl 2 rfl) ?_
        refine lv_iload_n hx hb dX1_heldWattle_13 rfl (lv_at hl 0 rfl) ?_
        refine zcRV (As := [.int (nI k)]) (rest := []) (st1 := [.ref (E (5 + k))]) ⟨hx, hb, hml, hown, hts⟩ (c_X1_weirAt l D y E t o q b c bc n ar fi re k (by omega) (by omega)) (cwV 1 hts gX1_heldWattle_X1_weirAt rfl rfl rfl (by decide +kernel) ⟨Nat.le_of_ble_eq_true rfl, Nat.le_of_ble_eq_true rfl⟩) hK hP (ci := 1) (q0 := 0) rfl rfl rfl rfl hl.1 rfl (lv_room (Nat.le_of_ble_eq_true rfl)) dX1_heldWattle_14 ⟨Nat.le_of_ble_eq_true rfl, Nat.le_of_ble_eq_true rfl⟩ rfl ?_
        refine lv_astore_n (lv' := [(3, .ref (E (5 + k))), (2, .int (nI k)), (1, .int (wattleN q k)), (0, .ref (E 0))]) hx hb dX1_heldWattle_17 rfl hl (by decide) rfl (fun ls hl => ?_)
        refine lv_aload_n hx hb dX1_heldWattle_18 rfl (lv_at hl 0 rfl) ?_
        refine lv_ifnull hx hb dX1_heldWattle_19 ?_
        refine lv_aload_n hx hb dX1_heldWattle_22 rfl (lv_at hl 0 rfl) ?_
        refine zcRV (As := []) (rest := []) (st1 := [.int (zb (heldB q k))]) ⟨hx, hb, hml, hown, hts⟩ (c_X2_isHeld l D y (E (5 + k)) q k) (cwV 0 hts gX1_heldWattle_X2_isHeld rfl rfl rfl (by decide +kernel) ⟨Nat.le_of_ble_eq_true rfl, Nat.le_of_ble_eq_true rfl⟩) hK (z_sub_P hP (z_in_1 (k := 5 + k) (eW_w (by omega)))) (ci := 2) (q0 := 0) rfl rfl rfl rfl hl.1 rfl (lv_room (Nat.le_of_ble_eq_true rfl)) dX1_heldWattle_23 ⟨Nat.le_of_ble_eq_true rfl, Nat.le_of_ble_eq_true rfl⟩ rfl ?_
        refine lv_if_eq (tgt := 36) hx hb dX1_heldWattle_26 (by decide) (fun c4 => ?_) (fun c4 => ?_)
        · have c4 : heldB q k = false := zb_f c4
          refine lv_iinc (v := nI (k + 1)) (lv' := [(2, .int (nI (k + 1))), (3, .ref (E (5 + k))), (1, .int (wattleN q k)), (0, .ref (E 0))]) hx hb dX1_heldWattle_36 hl (k := 1) rfl (nI_1 _) (by decide) rfl (fun ls hl => ?_)
          refine lv_goto (tgt := 4) hx hb dX1_heldWattle_39 (by decide) ?_
          have e5 : wattleN q (k + 1) = wattleN q k := by simp [wattleN_s, c4]
          refine ihk ls ?_
          simp only [e5]
          exact lv_sub hl [0, 2, 3] rfl
        · have c4 : heldB q k = true := zb_t c4
          refine lv_iload_n hx hb dX1_heldWattle_29 rfl (lv_at hl 2 rfl) ?_
          refine lv_aload_n hx hb dX1_heldWattle_30 rfl (lv_at hl 0 rfl) ?_
          refine va_get (D := D) (ci := 2) (v := .int ((q 2 k))) (C := RX2) (T := TX2) (N := 8) hx hb hts hinX2 hown hK hP (5 + k) (eW_w (by omega)) rfl 2 (by decide) hf135 (fun _ h9 => h9) rfl dX1_heldWattle_31 ?_
          refine lv_iadd hx hb dX1_heldWattle_34 ?_
          refine lv_istore_n (lv' := [(1, .int ((wattleN q k + (q 2 k)))), (3, .ref (E (5 + k))), (2, .int (nI k)), (0, .ref (E 0))]) hx hb dX1_heldWattle_35 rfl hl (by decide) rfl (fun ls hl => ?_)
          refine lv_iinc (v := nI (k + 1)) (lv' := [(2, .int (nI (k + 1))), (1, .int ((wattleN q k + (q 2 k)))), (3, .ref (E (5 + k))), (0, .ref (E 0))]) hx hb dX1_heldWattle_36 hl (k := 2) rfl (nI_1 _) (by decide) rfl (fun ls hl => ?_)
          refine lv_goto (tgt := 4) hx hb dX1_heldWattle_39 (by decide) ?_
          have e6 : wattleN q (k + 1) = (wattleN q k + (q 2 k)) := by simp [wattleN_s, c4]
          refine ihk ls ?_
          simp only [e6]
          exact lv_sub hl [0, 1, 3] rfl
  exact loop1 0 (Nat.zero_le _) ls (lv_sub hl [0, 1, 2] rfl)
set_option maxHeartbeats 4000000 in
set_option maxRecDepth 100000 in
theorem c_X1_allEels (l : Launch) (D : va_G) (y : Nat → ClassId) (E : Nat → Nat) (t : Nat → Int32) (o : Nat → Nat) (q b : Fld) (c bc n : Nat) (ar fi re : Int32) (hc : c ≤ 6) : zR l yX1_allEels wsX1_allEels { frames := 1, cells := 0, slots := 0, locals := 22 } D y [.ref (E 0)] (eW E y t o q b c bc n ar fi re) (some (.int (eelsN q c))) := by
  refine zR.of (cc := cX1_allEels) (maxL := 4) (ret := (some .int)) (own := RX1) (by decide) rfl (Nat.le_of_ble_eq_true rfl) rfl ?_
  intro p e s m args below meth cd ls hx hb hr hml hown hts hlocks hP hK hl
  have hl : lv_has ls 4 [(0, .ref (E 0))] := hl
  have hf39 : (Cond.fieldLink RX1 39 "StakeWeirs$Estuary" "weirCount" "I").before args s = true := hts _ (by decide +kernel)
  have hinX1 : ∀ w ∈ wsX10, w ∈ wsX1_allEels := by decide +kernel
  have hf138 : (Cond.fieldLink RX1 138 "StakeWeirs$Weir" "eels" "I").before args s = true := hts _ (by decide +kernel)
  have hinX2 : ∀ w ∈ wsX20, w ∈ wsX1_allEels := by decide +kernel
  refine lv_iconst (v := 0) hx hb dX1_allEels_0 (by decide) ?_
  refine lv_istore_n (lv' := [(1, .int 0), (0, .ref (E 0))]) hx hb dX1_allEels_1 rfl hl (by decide) rfl (fun ls hl => ?_)
  refine lv_iconst (v := 0) hx hb dX1_allEels_2 (by decide) ?_
  refine lv_istore_n (lv' := [(2, .int 0), (1, .int 0), (0, .ref (E 0))]) hx hb dX1_allEels_3 rfl hl (by decide) rfl (fun ls hl => ?_)
  have loop1 : ∀ k, k ≤ c → ∀ (ls : Array Slot), lv_has ls 4 [(2, .int (nI k)), (1, .int (eelsN q k)), (0, .ref (E 0))] → W p l e ({ frames := 1, cells := 0, slots := 0, locals := 22 } : Room) s m args below meth cd s.heap [] 0 0 (MQ below (zRQ (some (.int (eelsN q c)))) args s 0 0 (fun _ => False)) (F0 m 4 ls []) := by
    refine down ?_ ?_
    · intro ls hl
      refine lv_iload_n hx hb dX1_allEels_4 rfl (lv_at hl 0 rfl) ?_
      refine lv_aload_n hx hb dX1_allEels_5 rfl (lv_at hl 2 rfl) ?_
      refine va_get (D := D) (ci := 1) (v := .int (nI c)) (C := RX1) (T := TX1) (N := 10) hx hb hts hinX1 hown hK hP (0) rfl rfl 4 (by decide) hf39 (fun _ h9 => h9) rfl dX1_allEels_6 ?_
      refine lv_icmp_ge (tgt := 35) hx hb dX1_allEels_9 (by decide) (fun c2 => ?_) (fun c2 => ?_)
      · have d2 := Int32.not_lt.mpr c2
        refine lv_iload_n hx hb dX1_allEels_35 rfl (lv_at hl 1 rfl) ?_
        exact zR_i hx hb hr hlocks dX1_allEels_36 rfl
      · exact absurd (nI_le (a := c) (b := c) (by omega) (by omega)) c2
    · intro k hkk ihk ls hl
      refine lv_iload_n hx hb dX1_allEels_4 rfl (lv_at hl 0 rfl) ?_
      refine lv_aload_n hx hb dX1_allEels_5 rfl (lv_at hl 2 rfl) ?_
      refine va_get (D := D) (ci := 1) (v := .int (nI c)) (C := RX1) (T := TX1) (N := 10) hx hb hts hinX1 hown hK hP (0) rfl rfl 4 (by decide) hf39 (fun _ h9 => h9) rfl dX1_allEels_6 ?_
      refine lv_icmp_ge (tgt := 35) hx hb dX1_allEels_9 (by decide) (fun c3 => ?_) (fun c3 => ?_)
      · exact absurd c3 (nI_ge (a := k) (b := c) (by omega) (by omega))
      · have d3 := Int32.not_le.mp c3
        refine lv_aload_n hx hb dX1_allEels_12 rfl (lv_at hl 2 rfl) ?_
        refine lv_iload_n hx hb dX1_allEels_13 rfl (lv_at hl 0 rfl) ?_
        refine zcRV (As := [.int (nI k)]) (rest := []) (st1 := [.ref (E (5 + k))]) ⟨hx, hb, hml, hown, hts⟩ (c_X1_weirAt l D y E t o q b c bc n ar fi re k (by omega) (by omega)) (cwV 1 hts gX1_allEels_X1_weirAt rfl rfl rfl (by decide +kernel) ⟨Nat.le_of_ble_eq_true rfl, Nat.le_of_ble_eq_true rfl⟩) hK hP (ci := 1) (q0 := 0) rfl rfl rfl rfl hl.1 rfl (lv_room (Nat.le_of_ble_eq_true rfl)) dX1_allEels_14 ⟨Nat.le_of_ble_eq_true rfl, Nat.le_of_ble_eq_true rfl⟩ rfl ?_
        refine lv_astore_n (lv' := [(3, .ref (E (5 + k))), (2, .int (nI k)), (1, .int (eelsN q k)), (0, .ref (E 0))]) hx hb dX1_allEels_17 rfl hl (by decide) rfl (fun ls hl => ?_)
        refine lv_aload_n hx hb dX1_allEels_18 rfl (lv_at hl 0 rfl) ?_
        refine lv_ifnull hx hb dX1_allEels_19 ?_
        refine lv_iload_n hx hb dX1_allEels_22 rfl (lv_at hl 2 rfl) ?_
        refine lv_aload_n hx hb dX1_allEels_23 rfl (lv_at hl 0 rfl) ?_
        refine va_get (D := D) (ci := 2) (v := .int ((q 5 k))) (C := RX2) (T := TX2) (N := 8) hx hb hts hinX2 hown hK hP (5 + k) (eW_w (by omega)) rfl 5 (by decide) hf138 (fun _ h9 => h9) rfl dX1_allEels_24 ?_
        refine lv_iadd hx hb dX1_allEels_27 ?_
        refine lv_istore_n (lv' := [(1, .int ((eelsN q k + (q 5 k)))), (3, .ref (E (5 + k))), (2, .int (nI k)), (0, .ref (E 0))]) hx hb dX1_allEels_28 rfl hl (by decide) rfl (fun ls hl => ?_)
        refine lv_iinc (v := nI (k + 1)) (lv' := [(2, .int (nI (k + 1))), (1, .int ((eelsN q k + (q 5 k)))), (3, .ref (E (5 + k))), (0, .ref (E 0))]) hx hb dX1_allEels_29 hl (k := 2) rfl (nI_1 _) (by decide) rfl (fun ls hl => ?_)
        refine lv_goto (tgt := 4) hx hb dX1_allEels_32 (by decide) ?_
        have e4 : eelsN q (k + 1) = (eelsN q k + (q 5 k)) := by simp [eelsN_s]
        refine ihk ls ?_
        simp only [e4]
        exact lv_sub hl [0, 1, 3] rfl
  exact loop1 0 (Nat.zero_le _) ls (lv_sub hl [0, 1, 2] rfl)
set_option maxHeartbeats 4000000 in
set_option maxRecDepth 100000 in
theorem c_X1_weirsInWay (l : Launch) (D : va_G) (y : Nat → ClassId) (E : Nat → Nat) (t : Nat → Int32) (o : Nat → Nat) (q b : Fld) (c bc n : Nat) (ar fi re : Int32) (x : Int32) (hc : c ≤ 6) : zR l yX1_weirsInWay wsX1_weirsInWay { frames := 2, cells := 0, slots := 0, locals := 41 } D y [.ref (E 0), .int x] (eW E y t o q b c bc n ar fi re) (some (.int (wayN q c x))) := by
  refine zR.of (cc := cX1_weirsInWay) (maxL := 5) (ret := (some .int)) (own := RX1) (by decide) rfl (Nat.le_of_ble_eq_true rfl) rfl ?_
  intro p e s m args below meth cd ls hx hb hr hml hown hts hlocks hP hK hl
  have hl : lv_has ls 5 [(0, .ref (E 0)), (1, .int x)] := hl
  have hf39 : (Cond.fieldLink RX1 39 "StakeWeirs$Estuary" "weirCount" "I").before args s = true := hts _ (by decide +kernel)
  have hinX1 : ∀ w ∈ wsX10, w ∈ wsX1_weirsInWay := by decide +kernel
  refine lv_iconst (v := 0) hx hb dX1_weirsInWay_0 (by decide) ?_
  refine lv_istore_n (lv' := [(2, .int 0), (0, .ref (E 0)), (1, .int x)]) hx hb dX1_weirsInWay_1 rfl hl (by decide) rfl (fun ls hl => ?_)
  refine lv_iconst (v := 0) hx hb dX1_weirsInWay_2 (by decide) ?_
  refine lv_istore_n (lv' := [(3, .int 0), (2, .int 0), (0, .ref (E 0)), (1, .int x)]) hx hb dX1_weirsInWay_3 rfl hl (by decide) rfl (fun ls hl => ?_)
  have loop1 : ∀ k, k ≤ c → ∀ (ls : Array Slot), lv_has ls 5 [(3, .int (nI k)), (2, .int (wayN q k x)), (0, .ref (E 0)), (1, .int x)] → W p l e ({ frames := 2, cells := 0, slots := 0, locals := 41 } : Room) s m args below meth cd s.heap [] 0 0 (MQ below (zRQ (some (.int (wayN q c x)))) args s 0 0 (fun _ => False)) (F0 m 4 ls []) := by
    refine down ?_ ?_
    · intro ls hl
      refine lv_iload_n hx hb dX1_weirsInWay_4 rfl (lv_at hl 0 rfl) ?_
      refine lv_aload_n hx hb dX1_weirsInWay_5 rfl (lv_at hl 2 rfl) ?_
      refine va_get (D := D) (ci := 1) (v := .int (nI c)) (C := RX1) (T := TX1) (N := 10) hx hb hts hinX1 hown hK hP (0) rfl rfl 4 (by decide) hf39 (fun _ h9 => h9) rfl dX1_weirsInWay_6 ?_
      refine lv_icmp_ge (tgt := 42) hx hb dX1_weirsInWay_9 (by decide) (fun c2 => ?_) (fun c2 => ?_)
      · have d2 := Int32.not_lt.mpr c2
        refine lv_iload_n hx hb dX1_weirsInWay_42 rfl (lv_at hl 1 rfl) ?_
        exact zR_i hx hb hr hlocks dX1_weirsInWay_43 rfl
      · exact absurd (nI_le (a := c) (b := c) (by omega) (by omega)) c2
    · intro k hkk ihk ls hl
      refine lv_iload_n hx hb dX1_weirsInWay_4 rfl (lv_at hl 0 rfl) ?_
      refine lv_aload_n hx hb dX1_weirsInWay_5 rfl (lv_at hl 2 rfl) ?_
      refine va_get (D := D) (ci := 1) (v := .int (nI c)) (C := RX1) (T := TX1) (N := 10) hx hb hts hinX1 hown hK hP (0) rfl rfl 4 (by decide) hf39 (fun _ h9 => h9) rfl dX1_weirsInWay_6 ?_
      refine lv_icmp_ge (tgt := 42) hx hb dX1_weirsInWay_9 (by decide) (fun c3 => ?_) (fun c3 => ?_)
      · exact absurd c3 (nI_ge (a := k) (b := c) (by omega) (by omega))
      · have d3 := Int32.not_le.mp c3
        refine lv_aload_n hx hb dX1_weirsInWay_12 rfl (lv_at hl 2 rfl) ?_
        refine lv_iload_n hx hb dX1_weirsInWay_13 rfl (lv_at hl 0 rfl) ?_
        refine zcRV (As := [.int (nI k)]) (rest := []) (st1 := [.ref (E (5 + k))]) ⟨hx, hb, hml, hown, hts⟩ (c_X1_weirAt l D y E t o q b c bc n ar fi re k (by omega) (by omega)) (cwV 1 hts gX1_weirsInWay_X1_weirAt rfl rfl rfl (by decide +kernel) ⟨Nat.le_of_ble_eq_true rfl, Nat.le_of_ble_eq_true rfl⟩) hK hP (ci := 1) (q0 := 0) rfl rfl rfl rfl hl.1 rfl (lv_room (Nat.le_of_ble_eq_true rfl)) dX1_weirsInWay_14 ⟨Nat.le_of_ble_eq_true rfl, Nat.le_of_ble_eq_true rfl⟩ rfl ?_
        refine lv_astore (lv' := [(4, .ref (E (5 + k))), (3, .int (nI k)), (2, .int (wayN q k x)), (0, .ref (E 0)), (1, .int x)]) hx hb dX1_weirsInWay_17 hl (by decide) rfl (fun ls hl => ?_)
        refine lv_aload hx hb dX1_weirsInWay_19 (lv_at hl 0 rfl) ?_
        refine lv_ifnull hx hb dX1_weirsInWay_21 ?_
        refine lv_aload hx hb dX1_weirsInWay_24 (lv_at hl 0 rfl) ?_
        refine lv_iload_n hx hb dX1_weirsInWay_26 rfl (lv_at hl 4 rfl) ?_
        refine zcRV (As := [.int x]) (rest := []) (st1 := [.int (zb (wayB q k x))]) ⟨hx, hb, hml, hown, hts⟩ (c_X2_isInWay l D y (E (5 + k)) q k x) (cwV 1 hts gX1_weirsInWay_X2_isInWay rfl rfl rfl (by decide +kernel) ⟨Nat.le_of_ble_eq_true rfl, Nat.le_of_ble_eq_true rfl⟩) hK (z_sub_P hP (z_in_1 (k := 5 + k) (eW_w (by omega)))) (ci := 2) (q0 := 0) rfl rfl rfl rfl hl.1 rfl (lv_room (Nat.le_of_ble_eq_true rfl)) dX1_weirsInWay_27 ⟨Nat.le_of_ble_eq_true rfl, Nat.le_of_ble_eq_true rfl⟩ rfl ?_
        refine lv_if_eq (tgt := 36) hx hb dX1_weirsInWay_30 (by decide) (fun c4 => ?_) (fun c4 => ?_)
        · have c4 : wayB q k x = false := zb_f c4
          refine lv_iinc (v := nI (k + 1)) (lv' := [(3, .int (nI (k + 1))), (4, .ref (E (5 + k))), (2, .int (wayN q k x)), (0, .ref (E 0)), (1, .int x)]) hx hb dX1_weirsInWay_36 hl (k := 1) rfl (nI_1 _) (by decide) rfl (fun ls hl => ?_)
          refine lv_goto (tgt := 4) hx hb dX1_weirsInWay_39 (by decide) ?_
          have e5 : wayN q (k + 1) x = wayN q k x := by simp [wayN_s, c4]
          refine ihk ls ?_
          simp only [e5]
          exact lv_sub hl [0, 2, 3, 4] rfl
        · have c4 : wayB q k x = true := zb_t c4
          refine lv_iinc (v := (wayN q k x + 1)) (lv' := [(2, .int ((wayN q k x + 1))), (4, .ref (E (5 + k))), (3, .int (nI k)), (0, .ref (E 0)), (1, .int x)]) hx hb dX1_weirsInWay_33 hl (k := 2) rfl rfl (by decide) rfl (fun ls hl => ?_)
          refine lv_iinc (v := nI (k + 1)) (lv' := [(3, .int (nI (k + 1))), (2, .int ((wayN q k x + 1))), (4, .ref (E (5 + k))), (0, .ref (E 0)), (1, .int x)]) hx hb dX1_weirsInWay_36 hl (k := 2) rfl (nI_1 _) (by decide) rfl (fun ls hl => ?_)
          refine lv_goto (tgt := 4) hx hb dX1_weirsInWay_39 (by decide) ?_
          have e6 : wayN q (k + 1) x = (wayN q k x + 1) := by simp [wayN_s, c4]
          refine ihk ls ?_
          simp only [e6]
          exact lv_sub hl [0, 1, 3, 4] rfl
  exact loop1 0 (Nat.zero_le _) ls (lv_sub hl [0, 1, 2, 3] rfl)
set_option maxHeartbeats 4000000 in
set_option maxRecDepth 100000 in
theorem c_X1_richestHeld (l : Launch) (D : va_G) (y : Nat → ClassId) (E : Nat → Nat) (t : Nat → Int32) (o : Nat → Nat) (q b : Fld) (c bc n : Nat) (ar fi re : Int32) (hc : c ≤ 6) : zR l yX1_richestHeld wsX1_richestHeld { frames := 1, cells := 0, slots := 0, locals := 22 } D y [.ref (E 0)] (eW E y t o q b c bc n ar fi re) (some (.int (richE q c).1)) := by
  refine zR.of (cc := cX1_richestHeld) (maxL := 5) (ret := (some .int)) (own := RX1) (by decide) rfl (Nat.le_of_ble_eq_true rfl) rfl ?_
  intro p e s m args below meth cd ls hx hb hr hml hown hts hlocks hP hK hl
  have hl : lv_has ls 5 [(0, .ref (E 0))] := hl
  have hf39 : (Cond.fieldLink RX1 39 "StakeWeirs$Estuary" "weirCount" "I").before args s = true := hts _ (by decide +kernel)
  have hinX1 : ∀ w ∈ wsX10, w ∈ wsX1_richestHeld := by decide +kernel
  have hf145 : (Cond.fieldLink RX1 145 "StakeWeirs$Weir" "coins" "I").before args s = true := hts _ (by decide +kernel)
  have hinX2 : ∀ w ∈ wsX20, w ∈ wsX1_richestHeld := by decide +kernel
  refine lv_iconst (v := (-1)) hx hb dX1_richestHeld_0 (by decide) ?_
  refine lv_istore_n (lv' := [(1, .int (-1)), (0, .ref (E 0))]) hx hb dX1_richestHeld_1 rfl hl (by decide) rfl (fun ls hl => ?_)
  refine lv_iconst (v := 0) hx hb dX1_richestHeld_2 (by decide) ?_
  refine lv_istore_n (lv' := [(2, .int 0), (1, .int (-1)), (0, .ref (E 0))]) hx hb dX1_richestHeld_3 rfl hl (by decide) rfl (fun ls hl => ?_)
  refine lv_iconst (v := 0) hx hb dX1_richestHeld_4 (by decide) ?_
  refine lv_istore_n (lv' := [(3, .int 0), (2, .int 0), (1, .int (-1)), (0, .ref (E 0))]) hx hb dX1_richestHeld_5 rfl hl (by decide) rfl (fun ls hl => ?_)
  have loop1 : ∀ k, k ≤ c → ∀ (ls : Array Slot), lv_has ls 5 [(3, .int (nI k)), (2, .int ((richE q k).2)), (1, .int ((richE q k).1)), (0, .ref (E 0))] → W p l e ({ frames := 1, cells := 0, slots := 0, locals := 22 } : Room) s m args below meth cd s.heap [] 0 0 (MQ below (zRQ (some (.int (richE q c).1))) args s 0 0 (fun _ => False)) (F0 m 6 ls []) := by
    refine down ?_ ?_
    · intro ls hl
      refine lv_iload_n hx hb dX1_richestHeld_6 rfl (lv_at hl 0 rfl) ?_
      refine lv_aload_n hx hb dX1_richestHeld_7 rfl (lv_at hl 3 rfl) ?_
      refine va_get (D := D) (ci := 1) (v := .int (nI c)) (C := RX1) (T := TX1) (N := 10) hx hb hts hinX1 hown hK hP (0) rfl rfl 4 (by decide) hf39 (fun _ h9 => h9) rfl dX1_richestHeld_8 ?_
      refine lv_icmp_ge (tgt := 62) hx hb dX1_richestHeld_11 (by decide) (fun c2 => ?_) (fun c2 => ?_)
      · have d2 := Int32.not_lt.mpr c2
        refine lv_iload_n hx hb dX1_richestHeld_62 rfl (lv_at hl 2 rfl) ?_
        exact zR_i hx hb hr hlocks dX1_richestHeld_63 rfl
      · exact absurd (nI_le (a := c) (b := c) (by omega) (by omega)) c2
    · intro k hkk ihk ls hl
      refine lv_iload_n hx hb dX1_richestHeld_6 rfl (lv_at hl 0 rfl) ?_
      refine lv_aload_n hx hb dX1_richestHeld_7 rfl (lv_at hl 3 rfl) ?_
      refine va_get (D := D) (ci := 1) (v := .int (nI c)) (C := RX1) (T := TX1) (N := 10) hx hb hts hinX1 hown hK hP (0) rfl rfl 4 (by decide) hf39 (fun _ h9 => h9) rfl dX1_richestHeld_8 ?_
      refine lv_icmp_ge (tgt := 62) hx hb dX1_richestHeld_11 (by decide) (fun c3 => ?_) (fun c3 => ?_)
      · exact absurd c3 (nI_ge (a := k) (b := c) (by omega) (by omega))
      · have d3 := Int32.not_le.mp c3
        refine lv_aload_n hx hb dX1_richestHeld_14 rfl (lv_at hl 3 rfl) ?_
        refine lv_iload_n hx hb dX1_richestHeld_15 rfl (lv_at hl 0 rfl) ?_
        refine zcRV (As := [.int (nI k)]) (rest := []) (st1 := [.ref (E (5 + k))]) ⟨hx, hb, hml, hown, hts⟩ (c_X1_weirAt l D y E t o q b c bc n ar fi re k (by omega) (by omega)) (cwV 1 hts gX1_richestHeld_X1_weirAt rfl rfl rfl (by decide +kernel) ⟨Nat.le_of_ble_eq_true rfl, Nat.le_of_ble_eq_true rfl⟩) hK hP (ci := 1) (q0 := 0) rfl rfl rfl rfl hl.1 rfl (lv_room (Nat.le_of_ble_eq_true rfl)) dX1_richestHeld_16 ⟨Nat.le_of_ble_eq_true rfl, Nat.le_of_ble_eq_true rfl⟩ rfl ?_
        refine lv_astore (lv' := [(4, .ref (E (5 + k))), (3, .int (nI k)), (2, .int ((richE q k).2)), (1, .int ((richE q k).1)), (0, .ref (E 0))]) hx hb dX1_richestHeld_19 hl (by decide) rfl (fun ls hl => ?_)
        refine lv_aload hx hb dX1_richestHeld_21 (lv_at hl 0 rfl) ?_
        refine lv_ifnull hx hb dX1_richestHeld_23 ?_
        refine lv_aload hx hb dX1_richestHeld_26 (lv_at hl 0 rfl) ?_
        refine zcRV (As := []) (rest := []) (st1 := [.int (zb (heldB q k))]) ⟨hx, hb, hml, hown, hts⟩ (c_X2_isHeld l D y (E (5 + k)) q k) (cwV 0 hts gX1_richestHeld_X2_isHeld rfl rfl rfl (by decide +kernel) ⟨Nat.le_of_ble_eq_true rfl, Nat.le_of_ble_eq_true rfl⟩) hK (z_sub_P hP (z_in_1 (k := 5 + k) (eW_w (by omega)))) (ci := 2) (q0 := 0) rfl rfl rfl rfl hl.1 rfl (lv_room (Nat.le_of_ble_eq_true rfl)) dX1_richestHeld_28 ⟨Nat.le_of_ble_eq_true rfl, Nat.le_of_ble_eq_true rfl⟩ rfl ?_
        refine lv_if_eq (tgt := 56) hx hb dX1_richestHeld_31 (by decide) (fun c4 => ?_) (fun c4 => ?_)
        · have c4 : heldB q k = false := zb_f c4
          refine lv_iinc (v := nI (k + 1)) (lv' := [(3, .int (nI (k + 1))), (4, .ref (E (5 + k))), (2, .int ((richE q k).2)), (1, .int ((richE q k).1)), (0, .ref (E 0))]) hx hb dX1_richestHeld_56 hl (k := 1) rfl (nI_1 _) (by decide) rfl (fun ls hl => ?_)
          refine lv_goto (tgt := 6) hx hb dX1_richestHeld_59 (by decide) ?_
          have e5 : (richE q (k + 1)).2 = (richE q k).2 := by simp [richE_s, richS, c4]
          have e6 : (richE q (k + 1)).1 = (richE q k).1 := by simp [richE_s, richS, c4]
          refine ihk ls ?_
          simp only [e5, e6]
          exact lv_sub hl [0, 2, 3, 4] rfl
        · have c4 : heldB q k = true := zb_t c4
          refine lv_iload_n hx hb dX1_richestHeld_34 rfl (lv_at hl 3 rfl) ?_
          refine lv_iconst (v := (-1)) hx hb dX1_richestHeld_35 (by decide) ?_
          refine lv_icmp_eq (tgt := 48) hx hb dX1_richestHeld_36 (by decide) (fun c7 => ?_) (fun c7 => ?_)
          · have d7 := c7
            refine lv_iload_n hx hb dX1_richestHeld_48 rfl (lv_at hl 1 rfl) ?_
            refine lv_istore_n (lv' := [(1, .int (nI k)), (4, .ref (E (5 + k))), (3, .int (nI k)), (2, .int ((richE q k).2)), (0, .ref (E 0))]) hx hb dX1_richestHeld_49 rfl hl (by decide) rfl (fun ls hl => ?_)
            refine lv_aload hx hb dX1_richestHeld_50 (lv_at hl 1 rfl) ?_
            refine va_get (D := D) (ci := 2) (v := .int ((q 4 k))) (C := RX2) (T := TX2) (N := 8) hx hb hts hinX2 hown hK hP (5 + k) (eW_w (by omega)) rfl 4 (by decide) hf145 (fun _ h9 => h9) rfl dX1_richestHeld_52 ?_
            refine lv_istore_n (lv' := [(2, .int ((q 4 k))), (1, .int (nI k)), (4, .ref (E (5 + k))), (3, .int (nI k)), (0, .ref (E 0))]) hx hb dX1_richestHeld_55 rfl hl (by decide) rfl (fun ls hl => ?_)
            refine lv_iinc (v := nI (k + 1)) (lv' := [(3, .int (nI (k + 1))), (2, .int ((q 4 k))), (1, .int (nI k)), (4, .ref (E (5 + k))), (0, .ref (E 0))]) hx hb dX1_richestHeld_56 hl (k := 3) rfl (nI_1 _) (by decide) rfl (fun ls hl => ?_)
            refine lv_goto (tgt := 6) hx hb dX1_richestHeld_59 (by decide) ?_
            have e8 : (richE q (k + 1)).2 = (q 4 k) := by simp [richE_s, richS, c4, c7, d7]
            have e9 : (richE q (k + 1)).1 = nI k := by simp [richE_s, richS, c4, c7, d7]
            refine ihk ls ?_
            simp only [e8, e9]
            exact lv_sub hl [0, 1, 2, 4] rfl
          · have d7 := c7
            refine lv_aload hx hb dX1_richestHeld_39 (lv_at hl 0 rfl) ?_
            refine va_get (D := D) (ci := 2) (v := .int ((q 4 k))) (C := RX2) (T := TX2) (N := 8) hx hb hts hinX2 hown hK hP (5 + k) (eW_w (by omega)) rfl 4 (by decide) hf145 (fun _ h9 => h9) rfl dX1_richestHeld_41 ?_
            refine lv_iload_n hx hb dX1_richestHeld_44 rfl (lv_at hl 2 rfl) ?_
            refine lv_icmp_le (tgt := 56) hx hb dX1_richestHeld_45 (by decide) (fun c10 => ?_) (fun c10 => ?_)
            · have d10 := Int32.not_lt.mpr c10
              refine lv_iinc (v := nI (k + 1)) (lv' := [(3, .int (nI (k + 1))), (4, .ref (E (5 + k))), (2, .int ((richE q k).2)), (1, .int ((richE q k).1)), (0, .ref (E 0))]) hx hb dX1_richestHeld_56 hl (k := 1) rfl (nI_1 _) (by decide) rfl (fun ls hl => ?_)
              refine lv_goto (tgt := 6) hx hb dX1_richestHeld_59 (by decide) ?_
              have e11 : (richE q (k + 1)).2 = (richE q k).2 := by simp [richE_s, richS, c4, c7, d7, c10, d10]
              have e12 : (richE q (k + 1)).1 = (richE q k).1 := by simp [richE_s, richS, c4, c7, d7, c10, d10]
              refine ihk ls ?_
              simp only [e11, e12]
              exact lv_sub hl [0, 2, 3, 4] rfl
            · have d10 := Int32.not_le.mp c10
              refine lv_iload_n hx hb dX1_richestHeld_48 rfl (lv_at hl 1 rfl) ?_
              refine lv_istore_n (lv' := [(1, .int (nI k)), (4, .ref (E (5 + k))), (3, .int (nI k)), (2, .int ((richE q k).2)), (0, .ref (E 0))]) hx hb dX1_richestHeld_49 rfl hl (by decide) rfl (fun ls hl => ?_)
              refine lv_aload hx hb dX1_richestHeld_50 (lv_at hl 1 rfl) ?_
              refine va_get (D := D) (ci := 2) (v := .int ((q 4 k))) (C := RX2) (T := TX2) (N := 8) hx hb hts hinX2 hown hK hP (5 + k) (eW_w (by omega)) rfl 4 (by decide) hf145 (fun _ h9 => h9) rfl dX1_richestHeld_52 ?_
              refine lv_istore_n (lv' := [(2, .int ((q 4 k))), (1, .int (nI k)), (4, .ref (E (5 + k))), (3, .int (nI k)), (0, .ref (E 0))]) hx hb dX1_richestHeld_55 rfl hl (by decide) rfl (fun ls hl => ?_)
              refine lv_iinc (v := nI (k + 1)) (lv' := [(3, .int (nI (k + 1))), (2, .int ((q 4 k))), (1, .int (nI k)), (4, .ref (E (5 + k))), (0, .ref (E 0))]) hx hb dX1_richestHeld_56 hl (k := 3) rfl (nI_1 _) (by decide) rfl (fun ls hl => ?_)
              refine lv_goto (tgt := 6) hx hb dX1_richestHeld_59 (by decide) ?_
              have e13 : (richE q (k + 1)).2 = (q 4 k) := by simp [richE_s, richS, c4, c7, d7, c10, d10]
              have e14 : (richE q (k + 1)).1 = nI k := by simp [richE_s, richS, c4, c7, d7, c10, d10]
              refine ihk ls ?_
              simp only [e13, e14]
              exact lv_sub hl [0, 1, 2, 4] rfl
  exact loop1 0 (Nat.zero_le _) ls (lv_sub hl [0, 1, 2, 3] rfl)
set_option maxHeartbeats 4000000 in
set_option maxRecDepth 100000 in
theorem c_X1_nextInWay (l : Launch) (D : va_G) (y : Nat → ClassId) (E : Nat → Nat) (t : Nat → Int32) (o : Nat → Nat) (q b : Fld) (c bc n : Nat) (ar fi re : Int32) (j : Nat) (hj : j < 5) (hc : c ≤ 6) : zR l yX1_nextInWay wsX1_nextInWay { frames := 2, cells := 0, slots := 0, locals := 41 } D y [.ref (E 0), .ref (E (11 + j))] (eW E y t o q b c bc n ar fi re) (some (.int (nextE q c (b 2 j) (b 1 j)).1)) := by
  refine zR.of (cc := cX1_nextInWay) (maxL := 6) (ret := (some .int)) (own := RX1) (by decide) rfl (Nat.le_of_ble_eq_true rfl) rfl ?_
  intro p e s m args below meth cd ls hx hb hr hml hown hts hlocks hP hK hl
  have hl : lv_has ls 6 [(0, .ref (E 0)), (1, .ref (E (11 + j)))] := hl
  have hf39 : (Cond.fieldLink RX1 39 "StakeWeirs$Estuary" "weirCount" "I").before args s = true := hts _ (by decide +kernel)
  have hinX1 : ∀ w ∈ wsX10, w ∈ wsX1_nextInWay := by decide +kernel
  have hf93 : (Cond.fieldLink RX1 93 "StakeWeirs$Weir" "place" "I").before args s = true := hts _ (by decide +kernel)
  have hinX2 : ∀ w ∈ wsX20, w ∈ wsX1_nextInWay := by decide +kernel
  have hf123 : (Cond.fieldLink RX1 123 "StakeWeirs$Barge" "place" "I").before args s = true := hts _ (by decide +kernel)
  have hinX0 : ∀ w ∈ wsX00, w ∈ wsX1_nextInWay := by decide +kernel
  have hf120 : (Cond.fieldLink RX1 120 "StakeWeirs$Barge" "wide" "I").before args s = true := hts _ (by decide +kernel)
  refine lv_iconst (v := (-1)) hx hb dX1_nextInWay_0 (by decide) ?_
  refine lv_istore_n (lv' := [(2, .int (-1)), (0, .ref (E 0)), (1, .ref (E (11 + j)))]) hx hb dX1_nextInWay_1 rfl hl (by decide) rfl (fun ls hl => ?_)
  refine lv_bipush (v := 40) hx hb dX1_nextInWay_2 (by decide) ?_
  refine lv_istore_n (lv' := [(3, .int 40), (2, .int (-1)), (0, .ref (E 0)), (1, .ref (E (11 + j)))]) hx hb dX1_nextInWay_4 rfl hl (by decide) rfl (fun ls hl => ?_)
  refine lv_iconst (v := 0) hx hb dX1_nextInWay_5 (by decide) ?_
  refine lv_istore (lv' := [(4, .int 0), (3, .int 40), (2, .int (-1)), (0, .ref (E 0)), (1, .ref (E (11 + j)))]) hx hb dX1_nextInWay_6 hl (by decide) rfl (fun ls hl => ?_)
  have loop1 : ∀ k, k ≤ c → ∀ (ls : Array Slot), lv_has ls 6 [(4, .int (nI k)), (3, .int ((nextE q k (b 2 j) (b 1 j)).2)), (2, .int ((nextE q k (b 2 j) (b 1 j)).1)), (0, .ref (E 0)), (1, .ref (E (11 + j)))] → W p l e ({ frames := 2, cells := 0, slots := 0, locals := 41 } : Room) s m args below meth cd s.heap [] 0 0 (MQ below (zRQ (some (.int (nextE q c (b 2 j) (b 1 j)).1))) args s 0 0 (fun _ => False)) (F0 m 8 ls []) := by
    refine down ?_ ?_
    · intro ls hl
      refine lv_iload hx hb dX1_nextInWay_8 (lv_at hl 0 rfl) ?_
      refine lv_aload_n hx hb dX1_nextInWay_10 rfl (lv_at hl 3 rfl) ?_
      refine va_get (D := D) (ci := 1) (v := .int (nI c)) (C := RX1) (T := TX1) (N := 10) hx hb hts hinX1 hown hK hP (0) rfl rfl 4 (by decide) hf39 (fun _ h9 => h9) rfl dX1_nextInWay_11 ?_
      refine lv_icmp_ge (tgt := 78) hx hb dX1_nextInWay_14 (by decide) (fun c2 => ?_) (fun c2 => ?_)
      · have d2 := Int32.not_lt.mpr c2
        refine lv_iload_n hx hb dX1_nextInWay_78 rfl (lv_at hl 2 rfl) ?_
        exact zR_i hx hb hr hlocks dX1_nextInWay_79 rfl
      · exact absurd (nI_le (a := c) (b := c) (by omega) (by omega)) c2
    · intro k hkk ihk ls hl
      refine lv_iload hx hb dX1_nextInWay_8 (lv_at hl 0 rfl) ?_
      refine lv_aload_n hx hb dX1_nextInWay_10 rfl (lv_at hl 3 rfl) ?_
      refine va_get (D := D) (ci := 1) (v := .int (nI c)) (C := RX1) (T := TX1) (N := 10) hx hb hts hinX1 hown hK hP (0) rfl rfl 4 (by decide) hf39 (fun _ h9 => h9) rfl dX1_nextInWay_11 ?_
      refine lv_icmp_ge (tgt := 78) hx hb dX1_nextInWay_14 (by decide) (fun c3 => ?_) (fun c3 => ?_)
      · exact absurd c3 (nI_ge (a := k) (b := c) (by omega) (by omega))
      · have d3 := Int32.not_le.mp c3
        refine lv_aload_n hx hb dX1_nextInWay_17 rfl (lv_at hl 3 rfl) ?_
        refine lv_iload hx hb dX1_nextInWay_18 (lv_at hl 0 rfl) ?_
        refine zcRV (As := [.int (nI k)]) (rest := []) (st1 := [.ref (E (5 + k))]) ⟨hx, hb, hml, hown, hts⟩ (c_X1_weirAt l D y E t o q b c bc n ar fi re k (by omega) (by omega)) (cwV 1 hts gX1_nextInWay_X1_weirAt rfl rfl rfl (by decide +kernel) ⟨Nat.le_of_ble_eq_true rfl, Nat.le_of_ble_eq_true rfl⟩) hK hP (ci := 1) (q0 := 0) rfl rfl rfl rfl hl.1 rfl (lv_room (Nat.le_of_ble_eq_true rfl)) dX1_nextInWay_20 ⟨Nat.le_of_ble_eq_true rfl, Nat.le_of_ble_eq_true rfl⟩ rfl ?_
        refine lv_astore (lv' := [(5, .ref (E (5 + k))), (4, .int (nI k)), (3, .int ((nextE q k (b 2 j) (b 1 j)).2)), (2, .int ((nextE q k (b 2 j) (b 1 j)).1)), (0, .ref (E 0)), (1, .ref (E (11 + j)))]) hx hb dX1_nextInWay_23 hl (by decide) rfl (fun ls hl => ?_)
        refine lv_aload hx hb dX1_nextInWay_25 (lv_at hl 0 rfl) ?_
        refine lv_ifnull hx hb dX1_nextInWay_27 ?_
        refine lv_aload hx hb dX1_nextInWay_30 (lv_at hl 0 rfl) ?_
        refine va_get (D := D) (ci := 2) (v := .int ((q 0 k))) (C := RX2) (T := TX2) (N := 8) hx hb hts hinX2 hown hK hP (5 + k) (eW_w (by omega)) rfl 0 (by decide) hf93 (fun _ h9 => h9) rfl dX1_nextInWay_32 ?_
        refine lv_aload_n hx hb dX1_nextInWay_35 rfl (lv_at hl 5 rfl) ?_
        refine va_get (D := D) (ci := 0) (v := .int ((b 2 j))) (C := RX0) (T := TX0) (N := 4) hx hb hts hinX0 hown hK hP (11 + j) (eW_b (by omega)) rfl 2 (by decide) hf123 (fun _ h9 => h9) rfl dX1_nextInWay_36 ?_
        refine lv_icmp_le (tgt := 72) hx hb dX1_nextInWay_39 (by decide) (fun c4 => ?_) (fun c4 => ?_)
        · have d4 := Int32.not_lt.mpr c4
          refine lv_iinc (v := nI (k + 1)) (lv' := [(4, .int (nI (k + 1))), (5, .ref (E (5 + k))), (3, .int ((nextE q k (b 2 j) (b 1 j)).2)), (2, .int ((nextE q k (b 2 j) (b 1 j)).1)), (0, .ref (E 0)), (1, .ref (E (11 + j)))]) hx hb dX1_nextInWay_72 hl (k := 1) rfl (nI_1 _) (by decide) rfl (fun ls hl => ?_)
          refine lv_goto (tgt := 8) hx hb dX1_nextInWay_75 (by decide) ?_
          have e5 : (nextE q (k + 1) (b 2 j) (b 1 j)).2 = (nextE q k (b 2 j) (b 1 j)).2 := by simp [nextE_s, nextS, c4, d4]
          have e6 : (nextE q (k + 1) (b 2 j) (b 1 j)).1 = (nextE q k (b 2 j) (b 1 j)).1 := by simp [nextE_s, nextS, c4, d4]
          refine ihk ls ?_
          simp only [e5, e6]
          exact lv_sub hl [0, 2, 3, 4, 5] rfl
        · have d4 := Int32.not_le.mp c4
          refine lv_aload hx hb dX1_nextInWay_42 (lv_at hl 0 rfl) ?_
          refine va_get (D := D) (ci := 2) (v := .int ((q 0 k))) (C := RX2) (T := TX2) (N := 8) hx hb hts hinX2 hown hK hP (5 + k) (eW_w (by omega)) rfl 0 (by decide) hf93 (fun _ h9 => h9) rfl dX1_nextInWay_44 ?_
          refine lv_iload_n hx hb dX1_nextInWay_47 rfl (lv_at hl 2 rfl) ?_
          refine lv_icmp_ge (tgt := 72) hx hb dX1_nextInWay_48 (by decide) (fun c7 => ?_) (fun c7 => ?_)
          · have d7 := Int32.not_lt.mpr c7
            refine lv_iinc (v := nI (k + 1)) (lv' := [(4, .int (nI (k + 1))), (5, .ref (E (5 + k))), (3, .int ((nextE q k (b 2 j) (b 1 j)).2)), (2, .int ((nextE q k (b 2 j) (b 1 j)).1)), (0, .ref (E 0)), (1, .ref (E (11 + j)))]) hx hb dX1_nextInWay_72 hl (k := 1) rfl (nI_1 _) (by decide) rfl (fun ls hl => ?_)
            refine lv_goto (tgt := 8) hx hb dX1_nextInWay_75 (by decide) ?_
            have e8 : (nextE q (k + 1) (b 2 j) (b 1 j)).2 = (nextE q k (b 2 j) (b 1 j)).2 := by simp [nextE_s, nextS, c4, d4, c7, d7]
            have e9 : (nextE q (k + 1) (b 2 j) (b 1 j)).1 = (nextE q k (b 2 j) (b 1 j)).1 := by simp [nextE_s, nextS, c4, d4, c7, d7]
            refine ihk ls ?_
            simp only [e8, e9]
            exact lv_sub hl [0, 2, 3, 4, 5] rfl
          · have d7 := Int32.not_le.mp c7
            refine lv_aload hx hb dX1_nextInWay_51 (lv_at hl 0 rfl) ?_
            refine lv_aload_n hx hb dX1_nextInWay_53 rfl (lv_at hl 5 rfl) ?_
            refine va_get (D := D) (ci := 0) (v := .int ((b 1 j))) (C := RX0) (T := TX0) (N := 4) hx hb hts hinX0 hown hK hP (11 + j) (eW_b (by omega)) rfl 1 (by decide) hf120 (fun _ h9 => h9) rfl dX1_nextInWay_54 ?_
            refine zcRV (As := [.int ((b 1 j))]) (rest := []) (st1 := [.int (zb (wayB q k (b 1 j)))]) ⟨hx, hb, hml, hown, hts⟩ (c_X2_isInWay l D y (E (5 + k)) q k (b 1 j)) (cwV 1 hts gX1_nextInWay_X2_isInWay rfl rfl rfl (by decide +kernel) ⟨Nat.le_of_ble_eq_true rfl, Nat.le_of_ble_eq_true rfl⟩) hK (z_sub_P hP (z_in_1 (k := 5 + k) (eW_w (by omega)))) (ci := 2) (q0 := 0) rfl rfl rfl rfl hl.1 rfl (lv_room (Nat.le_of_ble_eq_true rfl)) dX1_nextInWay_57 ⟨Nat.le_of_ble_eq_true rfl, Nat.le_of_ble_eq_true rfl⟩ rfl ?_
            refine lv_if_eq (tgt := 72) hx hb dX1_nextInWay_60 (by decide) (fun c10 => ?_) (fun c10 => ?_)
            · have c10 : wayB q k (b 1 j) = false := zb_f c10
              refine lv_iinc (v := nI (k + 1)) (lv' := [(4, .int (nI (k + 1))), (5, .ref (E (5 + k))), (3, .int ((nextE q k (b 2 j) (b 1 j)).2)), (2, .int ((nextE q k (b 2 j) (b 1 j)).1)), (0, .ref (E 0)), (1, .ref (E (11 + j)))]) hx hb dX1_nextInWay_72 hl (k := 1) rfl (nI_1 _) (by decide) rfl (fun ls hl => ?_)
              refine lv_goto (tgt := 8) hx hb dX1_nextInWay_75 (by decide) ?_
              have e11 : (nextE q (k + 1) (b 2 j) (b 1 j)).2 = (nextE q k (b 2 j) (b 1 j)).2 := by simp [nextE_s, nextS, c4, d4, c7, d7, c10]
              have e12 : (nextE q (k + 1) (b 2 j) (b 1 j)).1 = (nextE q k (b 2 j) (b 1 j)).1 := by simp [nextE_s, nextS, c4, d4, c7, d7, c10]
              refine ihk ls ?_
              simp only [e11, e12]
              exact lv_sub hl [0, 2, 3, 4, 5] rfl
            · have c10 : wayB q k (b 1 j) = true := zb_t c10
              refine lv_iload hx hb dX1_nextInWay_63 (lv_at hl 1 rfl) ?_
              refine lv_istore_n (lv' := [(2, .int (nI k)), (5, .ref (E (5 + k))), (4, .int (nI k)), (3, .int ((nextE q k (b 2 j) (b 1 j)).2)), (0, .ref (E 0)), (1, .ref (E (11 + j)))]) hx hb dX1_nextInWay_65 rfl hl (by decide) rfl (fun ls hl => ?_)
              refine lv_aload hx hb dX1_nextInWay_66 (lv_at hl 1 rfl) ?_
              refine va_get (D := D) (ci := 2) (v := .int ((q 0 k))) (C := RX2) (T := TX2) (N := 8) hx hb hts hinX2 hown hK hP (5 + k) (eW_w (by omega)) rfl 0 (by decide) hf93 (fun _ h9 => h9) rfl dX1_nextInWay_68 ?_
              refine lv_istore_n (lv' := [(3, .int ((q 0 k))), (2, .int (nI k)), (5, .ref (E (5 + k))), (4, .int (nI k)), (0, .ref (E 0)), (1, .ref (E (11 + j)))]) hx hb dX1_nextInWay_71 rfl hl (by decide) rfl (fun ls hl => ?_)
              refine lv_iinc (v := nI (k + 1)) (lv' := [(4, .int (nI (k + 1))), (3, .int ((q 0 k))), (2, .int (nI k)), (5, .ref (E (5 + k))), (0, .ref (E 0)), (1, .ref (E (11 + j)))]) hx hb dX1_nextInWay_72 hl (k := 3) rfl (nI_1 _) (by decide) rfl (fun ls hl => ?_)
              refine lv_goto (tgt := 8) hx hb dX1_nextInWay_75 (by decide) ?_
              have e13 : (nextE q (k + 1) (b 2 j) (b 1 j)).2 = (q 0 k) := by simp [nextE_s, nextS, c4, d4, c7, d7, c10]
              have e14 : (nextE q (k + 1) (b 2 j) (b 1 j)).1 = nI k := by simp [nextE_s, nextS, c4, d4, c7, d7, c10]
              refine ihk ls ?_
              simp only [e13, e14]
              exact lv_sub hl [0, 1, 2, 4, 5] rfl
  exact loop1 0 (Nat.zero_le _) ls (lv_sub hl [0, 1, 2, 3, 4] rfl)
set_option maxHeartbeats 4000000 in
set_option maxRecDepth 100000 in
theorem c_X1_fact_0 (l : Launch) (D : va_G) (y : Nat → ClassId) (E : Nat → Nat) (t : Nat → Int32) (o : Nat → Nat) (q b : Fld) (c bc n : Nat) (ar fi re : Int32) (hc : c ≤ 6) (hn : n < 2147483648) : zR l yX1_fact wsX1_fact { frames := 0, cells := 0, slots := 0, locals := 0 } D y [.ref (E 0), .int 0] (eW E y t o q b c bc n ar fi re) (some (.int (nI n))) := by
  refine zR.of (cc := cX1_fact) (maxL := 2) (ret := (some .int)) (own := RX1) (by decide) rfl (Nat.le_of_ble_eq_true rfl) rfl ?_
  intro p e s m args below meth cd ls hx hb hr hml hown hts hlocks hP hK hl
  have hl : lv_has ls 2 [(0, .ref (E 0)), (1, .int 0)] := hl
  have hf62 : (Cond.fieldLink RX1 62 "StakeWeirs$Estuary" "night" "I").before args s = true := hts _ (by decide +kernel)
  have hinX1 : ∀ w ∈ wsX10, w ∈ wsX1_fact := by decide +kernel
  refine lv_iload_n hx hb dX1_fact_0 rfl (lv_at hl 1 rfl) ?_
  refine lv_tableIn (off := 51) (tgt := 52) hx hb dX1_fact_1 (by decide) (by decide) rfl (by decide) ?_
  refine lv_aload_n hx hb dX1_fact_52 rfl (lv_at hl 0 rfl) ?_
  refine va_get (D := D) (ci := 1) (v := .int (nI n)) (C := RX1) (T := TX1) (N := 10) hx hb hts hinX1 hown hK hP (0) rfl rfl 6 (by decide) hf62 (fun _ h9 => h9) rfl dX1_fact_53 ?_
  exact zR_i hx hb hr hlocks dX1_fact_56 rfl
set_option maxHeartbeats 4000000 in
set_option maxRecDepth 100000 in
theorem c_X1_fact_1 (l : Launch) (D : va_G) (y : Nat → ClassId) (E : Nat → Nat) (t : Nat → Int32) (o : Nat → Nat) (q b : Fld) (c bc n : Nat) (ar fi re : Int32) (hc : c ≤ 6) (hn : n < 2147483648) : zR l yX1_fact wsX1_fact { frames := 2, cells := 0, slots := 0, locals := 43 } D y [.ref (E 0), .int 1] (eW E y t o q b c bc n ar fi re) (some (.int ((moonI n)))) := by
  refine zR.of (cc := cX1_fact) (maxL := 2) (ret := (some .int)) (own := RX1) (by decide) rfl (Nat.le_of_ble_eq_true rfl) rfl ?_
  intro p e s m args below meth cd ls hx hb hr hml hown hts hlocks hP hK hl
  have hl : lv_has ls 2 [(0, .ref (E 0)), (1, .int 1)] := hl
  refine lv_iload_n hx hb dX1_fact_0 rfl (lv_at hl 1 rfl) ?_
  refine lv_tableIn (off := 56) (tgt := 57) hx hb dX1_fact_1 (by decide) (by decide) rfl (by decide) ?_
  refine lv_aload_n hx hb dX1_fact_57 rfl (lv_at hl 0 rfl) ?_
  refine zcRV (As := []) (rest := []) (st1 := [.int ((moonI n))]) ⟨hx, hb, hml, hown, hts⟩ (c_X1_moon l D y E t o q b c bc n ar fi re  (by omega)) (cwV 0 hts gX1_fact_X1_moon rfl rfl rfl (by decide +kernel) ⟨Nat.le_of_ble_eq_true rfl, Nat.le_of_ble_eq_true rfl⟩) hK hP (ci := 1) (q0 := 0) rfl rfl rfl rfl hl.1 rfl (lv_room (Nat.le_of_ble_eq_true rfl)) dX1_fact_58 ⟨Nat.le_of_ble_eq_true rfl, Nat.le_of_ble_eq_true rfl⟩ rfl ?_
  exact zR_i hx hb hr hlocks dX1_fact_61 rfl
set_option maxHeartbeats 4000000 in
set_option maxRecDepth 100000 in
theorem c_X1_fact_2 (l : Launch) (D : va_G) (y : Nat → ClassId) (E : Nat → Nat) (t : Nat → Int32) (o : Nat → Nat) (q b : Fld) (c bc n : Nat) (ar fi re : Int32) (hc : c ≤ 6) (hn : n < 2147483648) : zR l yX1_fact wsX1_fact { frames := 3, cells := 0, slots := 0, locals := 65 } D y [.ref (E 0), .int 2] (eW E y t o q b c bc n ar fi re) (some (.int ((runI t n)))) := by
  refine zR.of (cc := cX1_fact) (maxL := 2) (ret := (some .int)) (own := RX1) (by decide) rfl (Nat.le_of_ble_eq_true rfl) rfl ?_
  intro p e s m args below meth cd ls hx hb hr hml hown hts hlocks hP hK hl
  have hl : lv_has ls 2 [(0, .ref (E 0)), (1, .int 2)] := hl
  refine lv_iload_n hx hb dX1_fact_0 rfl (lv_at hl 1 rfl) ?_
  refine lv_tableIn (off := 61) (tgt := 62) hx hb dX1_fact_1 (by decide) (by decide) rfl (by decide) ?_
  refine lv_aload_n hx hb dX1_fact_62 rfl (lv_at hl 0 rfl) ?_
  refine zcRV (As := []) (rest := []) (st1 := [.int ((runI t n))]) ⟨hx, hb, hml, hown, hts⟩ (c_X1_run l D y E t o q b c bc n ar fi re  (by omega)) (cwV 0 hts gX1_fact_X1_run rfl rfl rfl (by decide +kernel) ⟨Nat.le_of_ble_eq_true rfl, Nat.le_of_ble_eq_true rfl⟩) hK hP (ci := 1) (q0 := 0) rfl rfl rfl rfl hl.1 rfl (lv_room (Nat.le_of_ble_eq_true rfl)) dX1_fact_63 ⟨Nat.le_of_ble_eq_true rfl, Nat.le_of_ble_eq_true rfl⟩ rfl ?_
  exact zR_i hx hb hr hlocks dX1_fact_66 rfl
set_option maxHeartbeats 4000000 in
set_option maxRecDepth 100000 in
theorem c_X1_fact_3 (l : Launch) (D : va_G) (y : Nat → ClassId) (E : Nat → Nat) (t : Nat → Int32) (o : Nat → Nat) (q b : Fld) (c bc n : Nat) (ar fi re : Int32) (hc : c ≤ 6) (hn : n < 2147483648) : zR l yX1_fact wsX1_fact { frames := 0, cells := 0, slots := 0, locals := 0 } D y [.ref (E 0), .int 3] (eW E y t o q b c bc n ar fi re) (some (.int (nI c))) := by
  refine zR.of (cc := cX1_fact) (maxL := 2) (ret := (some .int)) (own := RX1) (by decide) rfl (Nat.le_of_ble_eq_true rfl) rfl ?_
  intro p e s m args below meth cd ls hx hb hr hml hown hts hlocks hP hK hl
  have hl : lv_has ls 2 [(0, .ref (E 0)), (1, .int 3)] := hl
  have hf39 : (Cond.fieldLink RX1 39 "StakeWeirs$Estuary" "weirCount" "I").before args s = true := hts _ (by decide +kernel)
  have hinX1 : ∀ w ∈ wsX10, w ∈ wsX1_fact := by decide +kernel
  refine lv_iload_n hx hb dX1_fact_0 rfl (lv_at hl 1 rfl) ?_
  refine lv_tableIn (off := 66) (tgt := 67) hx hb dX1_fact_1 (by decide) (by decide) rfl (by decide) ?_
  refine lv_aload_n hx hb dX1_fact_67 rfl (lv_at hl 0 rfl) ?_
  refine va_get (D := D) (ci := 1) (v := .int (nI c)) (C := RX1) (T := TX1) (N := 10) hx hb hts hinX1 hown hK hP (0) rfl rfl 4 (by decide) hf39 (fun _ h9 => h9) rfl dX1_fact_68 ?_
  exact zR_i hx hb hr hlocks dX1_fact_71 rfl
set_option maxHeartbeats 4000000 in
set_option maxRecDepth 100000 in
theorem c_X1_fact_4 (l : Launch) (D : va_G) (y : Nat → ClassId) (E : Nat → Nat) (t : Nat → Int32) (o : Nat → Nat) (q b : Fld) (c bc n : Nat) (ar fi re : Int32) (hc : c ≤ 6) (hn : n < 2147483648) : zR l yX1_fact wsX1_fact { frames := 2, cells := 0, slots := 0, locals := 45 } D y [.ref (E 0), .int 4] (eW E y t o q b c bc n ar fi re) (some (.int ((heldN q c)))) := by
  refine zR.of (cc := cX1_fact) (maxL := 2) (ret := (some .int)) (own := RX1) (by decide) rfl (Nat.le_of_ble_eq_true rfl) rfl ?_
  intro p e s m args below meth cd ls hx hb hr hml hown hts hlocks hP hK hl
  have hl : lv_has ls 2 [(0, .ref (E 0)), (1, .int 4)] := hl
  refine lv_iload_n hx hb dX1_fact_0 rfl (lv_at hl 1 rfl) ?_
  refine lv_tableIn (off := 71) (tgt := 72) hx hb dX1_fact_1 (by decide) (by decide) rfl (by decide) ?_
  refine lv_aload_n hx hb dX1_fact_72 rfl (lv_at hl 0 rfl) ?_
  refine zcRV (As := []) (rest := []) (st1 := [.int ((heldN q c))]) ⟨hx, hb, hml, hown, hts⟩ (c_X1_heldWeirs l D y E t o q b c bc n ar fi re  (by omega)) (cwV 0 hts gX1_fact_X1_heldWeirs rfl rfl rfl (by decide +kernel) ⟨Nat.le_of_ble_eq_true rfl, Nat.le_of_ble_eq_true rfl⟩) hK hP (ci := 1) (q0 := 0) rfl rfl rfl rfl hl.1 rfl (lv_room (Nat.le_of_ble_eq_true rfl)) dX1_fact_73 ⟨Nat.le_of_ble_eq_true rfl, Nat.le_of_ble_eq_true rfl⟩ rfl ?_
  exact zR_i hx hb hr hlocks dX1_fact_76 rfl
set_option maxHeartbeats 4000000 in
set_option maxRecDepth 100000 in
theorem c_X1_fact_5 (l : Launch) (D : va_G) (y : Nat → ClassId) (E : Nat → Nat) (t : Nat → Int32) (o : Nat → Nat) (q b : Fld) (c bc n : Nat) (ar fi re : Int32) (hc : c ≤ 6) (hn : n < 2147483648) : zR l yX1_fact wsX1_fact { frames := 0, cells := 0, slots := 0, locals := 0 } D y [.ref (E 0), .int 5] (eW E y t o q b c bc n ar fi re) (some (.int (nI bc))) := by
  refine zR.of (cc := cX1_fact) (maxL := 2) (ret := (some .int)) (own := RX1) (by decide) rfl (Nat.le_of_ble_eq_true rfl) rfl ?_
  intro p e s m args below meth cd ls hx hb hr hml hown hts hlocks hP hK hl
  have hl : lv_has ls 2 [(0, .ref (E 0)), (1, .int 5)] := hl
  have hf51 : (Cond.fieldLink RX1 51 "StakeWeirs$Estuary" "bargeCount" "I").before args s = true := hts _ (by decide +kernel)
  have hinX1 : ∀ w ∈ wsX10, w ∈ wsX1_fact := by decide +kernel
  refine lv_iload_n hx hb dX1_fact_0 rfl (lv_at hl 1 rfl) ?_
  refine lv_tableIn (off := 76) (tgt := 77) hx hb dX1_fact_1 (by decide) (by decide) rfl (by decide) ?_
  refine lv_aload_n hx hb dX1_fact_77 rfl (lv_at hl 0 rfl) ?_
  refine va_get (D := D) (ci := 1) (v := .int (nI bc)) (C := RX1) (T := TX1) (N := 10) hx hb hts hinX1 hown hK hP (0) rfl rfl 5 (by decide) hf51 (fun _ h9 => h9) rfl dX1_fact_78 ?_
  exact zR_i hx hb hr hlocks dX1_fact_81 rfl
set_option maxHeartbeats 4000000 in
set_option maxRecDepth 100000 in
theorem c_X1_fact_6 (l : Launch) (D : va_G) (y : Nat → ClassId) (E : Nat → Nat) (t : Nat → Int32) (o : Nat → Nat) (q b : Fld) (c bc n : Nat) (ar fi re : Int32) (hc : c ≤ 6) (hn : n < 2147483648) : zR l yX1_fact wsX1_fact { frames := 0, cells := 0, slots := 0, locals := 0 } D y [.ref (E 0), .int 6] (eW E y t o q b c bc n ar fi re) (some (.int (ar))) := by
  refine zR.of (cc := cX1_fact) (maxL := 2) (ret := (some .int)) (own := RX1) (by decide) rfl (Nat.le_of_ble_eq_true rfl) rfl ?_
  intro p e s m args below meth cd ls hx hb hr hml hown hts hlocks hP hK hl
  have hl : lv_has ls 2 [(0, .ref (E 0)), (1, .int 6)] := hl
  have hf65 : (Cond.fieldLink RX1 65 "StakeWeirs$Estuary" "arrived" "I").before args s = true := hts _ (by decide +kernel)
  have hinX1 : ∀ w ∈ wsX10, w ∈ wsX1_fact := by decide +kernel
  refine lv_iload_n hx hb dX1_fact_0 rfl (lv_at hl 1 rfl) ?_
  refine lv_tableIn (off := 81) (tgt := 82) hx hb dX1_fact_1 (by decide) (by decide) rfl (by decide) ?_
  refine lv_aload_n hx hb dX1_fact_82 rfl (lv_at hl 0 rfl) ?_
  refine va_get (D := D) (ci := 1) (v := .int ar) (C := RX1) (T := TX1) (N := 10) hx hb hts hinX1 hown hK hP (0) rfl rfl 7 (by decide) hf65 (fun _ h9 => h9) rfl dX1_fact_83 ?_
  exact zR_i hx hb hr hlocks dX1_fact_86 rfl
set_option maxHeartbeats 4000000 in
set_option maxRecDepth 100000 in
theorem c_X1_fact_7 (l : Launch) (D : va_G) (y : Nat → ClassId) (E : Nat → Nat) (t : Nat → Int32) (o : Nat → Nat) (q b : Fld) (c bc n : Nat) (ar fi re : Int32) (hc : c ≤ 6) (hn : n < 2147483648) : zR l yX1_fact wsX1_fact { frames := 0, cells := 0, slots := 0, locals := 0 } D y [.ref (E 0), .int 7] (eW E y t o q b c bc n ar fi re) (some (.int (fi))) := by
  refine zR.of (cc := cX1_fact) (maxL := 2) (ret := (some .int)) (own := RX1) (by decide) rfl (Nat.le_of_ble_eq_true rfl) rfl ?_
  intro p e s m args below meth cd ls hx hb hr hml hown hts hlocks hP hK hl
  have hl : lv_has ls 2 [(0, .ref (E 0)), (1, .int 7)] := hl
  have hf68 : (Cond.fieldLink RX1 68 "StakeWeirs$Estuary" "fines" "I").before args s = true := hts _ (by decide +kernel)
  have hinX1 : ∀ w ∈ wsX10, w ∈ wsX1_fact := by decide +kernel
  refine lv_iload_n hx hb dX1_fact_0 rfl (lv_at hl 1 rfl) ?_
  refine lv_tableIn (off := 86) (tgt := 87) hx hb dX1_fact_1 (by decide) (by decide) rfl (by decide) ?_
  refine lv_aload_n hx hb dX1_fact_87 rfl (lv_at hl 0 rfl) ?_
  refine va_get (D := D) (ci := 1) (v := .int fi) (C := RX1) (T := TX1) (N := 10) hx hb hts hinX1 hown hK hP (0) rfl rfl 8 (by decide) hf68 (fun _ h9 => h9) rfl dX1_fact_88 ?_
  exact zR_i hx hb hr hlocks dX1_fact_91 rfl
set_option maxHeartbeats 4000000 in
set_option maxRecDepth 100000 in
theorem c_X1_fact_8 (l : Launch) (D : va_G) (y : Nat → ClassId) (E : Nat → Nat) (t : Nat → Int32) (o : Nat → Nat) (q b : Fld) (c bc n : Nat) (ar fi re : Int32) (hc : c ≤ 6) (hn : n < 2147483648) : zR l yX1_fact wsX1_fact { frames := 0, cells := 0, slots := 0, locals := 0 } D y [.ref (E 0), .int 8] (eW E y t o q b c bc n ar fi re) (some (.int (re))) := by
  refine zR.of (cc := cX1_fact) (maxL := 2) (ret := (some .int)) (own := RX1) (by decide) rfl (Nat.le_of_ble_eq_true rfl) rfl ?_
  intro p e s m args below meth cd ls hx hb hr hml hown hts hlocks hP hK hl
  have hl : lv_has ls 2 [(0, .ref (E 0)), (1, .int 8)] := hl
  have hf71 : (Cond.fieldLink RX1 71 "StakeWeirs$Estuary" "rents" "I").before args s = true := hts _ (by decide +kernel)
  have hinX1 : ∀ w ∈ wsX10, w ∈ wsX1_fact := by decide +kernel
  refine lv_iload_n hx hb dX1_fact_0 rfl (lv_at hl 1 rfl) ?_
  refine lv_tableIn (off := 91) (tgt := 92) hx hb dX1_fact_1 (by decide) (by decide) rfl (by decide) ?_
  refine lv_aload_n hx hb dX1_fact_92 rfl (lv_at hl 0 rfl) ?_
  refine va_get (D := D) (ci := 1) (v := .int re) (C := RX1) (T := TX1) (N := 10) hx hb hts hinX1 hown hK hP (0) rfl rfl 9 (by decide) hf71 (fun _ h9 => h9) rfl dX1_fact_93 ?_
  exact zR_i hx hb hr hlocks dX1_fact_96 rfl
set_option maxHeartbeats 4000000 in
set_option maxRecDepth 100000 in
theorem c_X1_fact_9 (l : Launch) (D : va_G) (y : Nat → ClassId) (E : Nat → Nat) (t : Nat → Int32) (o : Nat → Nat) (q b : Fld) (c bc n : Nat) (ar fi re : Int32) (hc : c ≤ 6) (hn : n < 2147483648) : zR l yX1_fact wsX1_fact { frames := 2, cells := 0, slots := 0, locals := 45 } D y [.ref (E 0), .int 9] (eW E y t o q b c bc n ar fi re) (some (.int ((eelsN q c)))) := by
  refine zR.of (cc := cX1_fact) (maxL := 2) (ret := (some .int)) (own := RX1) (by decide) rfl (Nat.le_of_ble_eq_true rfl) rfl ?_
  intro p e s m args below meth cd ls hx hb hr hml hown hts hlocks hP hK hl
  have hl : lv_has ls 2 [(0, .ref (E 0)), (1, .int 9)] := hl
  refine lv_iload_n hx hb dX1_fact_0 rfl (lv_at hl 1 rfl) ?_
  refine lv_tableOut (tgt := 97) hx hb dX1_fact_1 (by decide) (by decide) ?_
  refine lv_aload_n hx hb dX1_fact_97 rfl (lv_at hl 0 rfl) ?_
  refine zcRV (As := []) (rest := []) (st1 := [.int ((eelsN q c))]) ⟨hx, hb, hml, hown, hts⟩ (c_X1_allEels l D y E t o q b c bc n ar fi re  (by omega)) (cwV 0 hts gX1_fact_X1_allEels rfl rfl rfl (by decide +kernel) ⟨Nat.le_of_ble_eq_true rfl, Nat.le_of_ble_eq_true rfl⟩) hK hP (ci := 1) (q0 := 0) rfl rfl rfl rfl hl.1 rfl (lv_room (Nat.le_of_ble_eq_true rfl)) dX1_fact_98 ⟨Nat.le_of_ble_eq_true rfl, Nat.le_of_ble_eq_true rfl⟩ rfl ?_
  exact zR_i hx hb hr hlocks dX1_fact_101 rfl
set_option maxHeartbeats 4000000 in
set_option maxRecDepth 100000 in
theorem c_X1_bargeFact_0 (l : Launch) (D : va_G) (y : Nat → ClassId) (E : Nat → Nat) (t : Nat → Int32) (o : Nat → Nat) (q b : Fld) (c bc n : Nat) (ar fi re : Int32) (j : Nat) (hj : j < 5) (hc : c ≤ 6) : zR l yX1_bargeFact wsX1_bargeFact { frames := 0, cells := 0, slots := 0, locals := 0 } D y [.ref (E 0), .ref (E (11 + j)), .int 0] (eW E y t o q b c bc n ar fi re) (some (.int (b 1 j))) := by
  refine zR.of (cc := cX1_bargeFact) (maxL := 3) (ret := (some .int)) (own := RX1) (by decide) rfl (Nat.le_of_ble_eq_true rfl) rfl ?_
  intro p e s m args below meth cd ls hx hb hr hml hown hts hlocks hP hK hl
  have hl : lv_has ls 3 [(0, .ref (E 0)), (1, .ref (E (11 + j))), (2, .int 0)] := hl
  have hf120 : (Cond.fieldLink RX1 120 "StakeWeirs$Barge" "wide" "I").before args s = true := hts _ (by decide +kernel)
  have hinX0 : ∀ w ∈ wsX00, w ∈ wsX1_bargeFact := by decide +kernel
  refine lv_iload_n hx hb dX1_bargeFact_0 rfl (lv_at hl 2 rfl) ?_
  refine lv_tableIn (off := 27) (tgt := 28) hx hb dX1_bargeFact_1 (by decide) (by decide) rfl (by decide) ?_
  refine lv_aload_n hx hb dX1_bargeFact_28 rfl (lv_at hl 1 rfl) ?_
  refine va_get (D := D) (ci := 0) (v := .int ((b 1 j))) (C := RX0) (T := TX0) (N := 4) hx hb hts hinX0 hown hK hP (11 + j) (eW_b (by omega)) rfl 1 (by decide) hf120 (fun _ h9 => h9) rfl dX1_bargeFact_29 ?_
  exact zR_i hx hb hr hlocks dX1_bargeFact_32 rfl
set_option maxHeartbeats 4000000 in
set_option maxRecDepth 100000 in
theorem c_X1_bargeFact_1 (l : Launch) (D : va_G) (y : Nat → ClassId) (E : Nat → Nat) (t : Nat → Int32) (o : Nat → Nat) (q b : Fld) (c bc n : Nat) (ar fi re : Int32) (j : Nat) (hj : j < 5) (hc : c ≤ 6) : zR l yX1_bargeFact wsX1_bargeFact { frames := 0, cells := 0, slots := 0, locals := 0 } D y [.ref (E 0), .ref (E (11 + j)), .int 1] (eW E y t o q b c bc n ar fi re) (some (.int (b 2 j))) := by
  refine zR.of (cc := cX1_bargeFact) (maxL := 3) (ret := (some .int)) (own := RX1) (by decide) rfl (Nat.le_of_ble_eq_true rfl) rfl ?_
  intro p e s m args below meth cd ls hx hb hr hml hown hts hlocks hP hK hl
  have hl : lv_has ls 3 [(0, .ref (E 0)), (1, .ref (E (11 + j))), (2, .int 1)] := hl
  have hf123 : (Cond.fieldLink RX1 123 "StakeWeirs$Barge" "place" "I").before args s = true := hts _ (by decide +kernel)
  have hinX0 : ∀ w ∈ wsX00, w ∈ wsX1_bargeFact := by decide +kernel
  refine lv_iload_n hx hb dX1_bargeFact_0 rfl (lv_at hl 2 rfl) ?_
  refine lv_tableIn (off := 32) (tgt := 33) hx hb dX1_bargeFact_1 (by decide) (by decide) rfl (by decide) ?_
  refine lv_aload_n hx hb dX1_bargeFact_33 rfl (lv_at hl 1 rfl) ?_
  refine va_get (D := D) (ci := 0) (v := .int ((b 2 j))) (C := RX0) (T := TX0) (N := 4) hx hb hts hinX0 hown hK hP (11 + j) (eW_b (by omega)) rfl 2 (by decide) hf123 (fun _ h9 => h9) rfl dX1_bargeFact_34 ?_
  exact zR_i hx hb hr hlocks dX1_bargeFact_37 rfl
set_option maxHeartbeats 4000000 in
set_option maxRecDepth 100000 in
theorem c_X1_bargeFact_2 (l : Launch) (D : va_G) (y : Nat → ClassId) (E : Nat → Nat) (t : Nat → Int32) (o : Nat → Nat) (q b : Fld) (c bc n : Nat) (ar fi re : Int32) (j : Nat) (hj : j < 5) (hc : c ≤ 6) : zR l yX1_bargeFact wsX1_bargeFact { frames := 0, cells := 0, slots := 0, locals := 0 } D y [.ref (E 0), .ref (E (11 + j)), .int 2] (eW E y t o q b c bc n ar fi re) (some (.int (b 3 j))) := by
  refine zR.of (cc := cX1_bargeFact) (maxL := 3) (ret := (some .int)) (own := RX1) (by decide) rfl (Nat.le_of_ble_eq_true rfl) rfl ?_
  intro p e s m args below meth cd ls hx hb hr hml hown hts hlocks hP hK hl
  have hl : lv_has ls 3 [(0, .ref (E 0)), (1, .ref (E (11 + j))), (2, .int 2)] := hl
  have hf124 : (Cond.fieldLink RX1 124 "StakeWeirs$Barge" "broken" "I").before args s = true := hts _ (by decide +kernel)
  have hinX0 : ∀ w ∈ wsX00, w ∈ wsX1_bargeFact := by decide +kernel
  refine lv_iload_n hx hb dX1_bargeFact_0 rfl (lv_at hl 2 rfl) ?_
  refine lv_tableIn (off := 37) (tgt := 38) hx hb dX1_bargeFact_1 (by decide) (by decide) rfl (by decide) ?_
  refine lv_aload_n hx hb dX1_bargeFact_38 rfl (lv_at hl 1 rfl) ?_
  refine va_get (D := D) (ci := 0) (v := .int ((b 3 j))) (C := RX0) (T := TX0) (N := 4) hx hb hts hinX0 hown hK hP (11 + j) (eW_b (by omega)) rfl 3 (by decide) hf124 (fun _ h9 => h9) rfl dX1_bargeFact_39 ?_
  exact zR_i hx hb hr hlocks dX1_bargeFact_42 rfl
set_option maxHeartbeats 4000000 in
set_option maxRecDepth 100000 in
theorem c_X1_bargeFact_3 (l : Launch) (D : va_G) (y : Nat → ClassId) (E : Nat → Nat) (t : Nat → Int32) (o : Nat → Nat) (q b : Fld) (c bc n : Nat) (ar fi re : Int32) (j : Nat) (hj : j < 5) (hc : c ≤ 6) : zR l yX1_bargeFact wsX1_bargeFact { frames := 3, cells := 0, slots := 0, locals := 66 } D y [.ref (E 0), .ref (E (11 + j)), .int 3] (eW E y t o q b c bc n ar fi re) (some (.int ((nextE q c (b 2 j) (b 1 j)).1))) := by
  refine zR.of (cc := cX1_bargeFact) (maxL := 3) (ret := (some .int)) (own := RX1) (by decide) rfl (Nat.le_of_ble_eq_true rfl) rfl ?_
  intro p e s m args below meth cd ls hx hb hr hml hown hts hlocks hP hK hl
  have hl : lv_has ls 3 [(0, .ref (E 0)), (1, .ref (E (11 + j))), (2, .int 3)] := hl
  refine lv_iload_n hx hb dX1_bargeFact_0 rfl (lv_at hl 2 rfl) ?_
  refine lv_tableOut (tgt := 43) hx hb dX1_bargeFact_1 (by decide) (by decide) ?_
  refine lv_aload_n hx hb dX1_bargeFact_43 rfl (lv_at hl 0 rfl) ?_
  refine lv_aload_n hx hb dX1_bargeFact_44 rfl (lv_at hl 1 rfl) ?_
  refine zcRV (As := [.ref (E (11 + j))]) (rest := []) (st1 := [.int ((nextE q c (b 2 j) (b 1 j)).1)]) ⟨hx, hb, hml, hown, hts⟩ (c_X1_nextInWay l D y E t o q b c bc n ar fi re j (by omega) (by omega)) (cwV 1 hts gX1_bargeFact_X1_nextInWay rfl rfl rfl (by decide +kernel) ⟨Nat.le_of_ble_eq_true rfl, Nat.le_of_ble_eq_true rfl⟩) hK hP (ci := 1) (q0 := 0) rfl rfl rfl rfl hl.1 rfl (lv_room (Nat.le_of_ble_eq_true rfl)) dX1_bargeFact_45 ⟨Nat.le_of_ble_eq_true rfl, Nat.le_of_ble_eq_true rfl⟩ rfl ?_
  exact zR_i hx hb hr hlocks dX1_bargeFact_48 rfl
