/-! the glue: what a method's contract says here, its start, its ends, its calls; worlds that go on in one form -/
/-- the array classes of the worlds -/
def tyL (y : Nat → ClassId) : List (ClassId × FieldType) := [(y 0, .int), (y 1, .object "StakeWeirs$Weir"), (y 2, .object "StakeWeirs$Barge"), (y 3, .long)]
/-- a boolean on the stack -/
def zb (b : Bool) : Int32 := if b then 1 else 0
theorem zb_t {b : Bool} (h : ¬ zb b = 0) : b = true := by cases b with | true => rfl | false => exact absurd rfl h
theorem zb_f {b : Bool} (h : zb b = 0) : b = false := by cases b with | true => exact absurd h (by decide) | false => rfl
theorem zb_01 (b : Bool) : zb b = 0 ∨ zb b = 1 := by cases b with | true => exact Or.inr rfl | false => exact Or.inl rfl
/-- a method that only reads: its answer, the heap as it was -/
def zRQ (rv : Option Value) : Array Value → State → Outcome → State → Prop := fun _ st o t => o = .returned rv ∧ t.heap = st.heap
/-- a method that writes: its answer, its world behind it, nothing else changed -/
def zMQ (rv : Option Value) (D : va_G) (w1 : va_W) (A : Nat → Prop) : Array Value → State → Outcome → State → Prop := fun _ st o t => (o = .returned rv ∧ va_P D vwCl w1 t.heap) ∧ va_F A st t
def zRP (D : va_G) (y : Nat → ClassId) (w : va_W) : State → Prop := fun U => va_P D vwCl w U.heap ∧ va_K D vwCl (tyL y) U
def zMP (D : va_G) (y : Nat → ClassId) (w : va_W) (sz : Nat) : State → Prop := fun U => U.heap.size = sz ∧ va_P D vwCl w U.heap ∧ va_K D vwCl (tyL y) U ∧ va_D (fun _ => True) w
def zR (l : Launch) (n : MethodName) (ws : List Cond) (rm : Room) (D : va_G) (y : Nat → ClassId) (av : List Value) (w : va_W) (rv : Option Value) : Prop := Met l n ws rm (va_Pc av (zRP D y w)) (zRQ rv) 0 0 (fun _ => False)
def zM (l : Launch) (n : MethodName) (ws : List Cond) (rm : Room) (D : va_G) (y : Nat → ClassId) (av : List Value) (w : va_W) (sz : Nat) (rv : Option Value) (w1 : va_W) (mc ms : Nat) : Prop := Met l n ws rm (va_Pc av (zMP D y w sz)) (zMQ rv D w1 (va_A w sz)) mc ms (va_A w sz)
theorem zRP_blind {D : va_G} {y : Nat → ClassId} {av : List Value} {w : va_W} : FrameBlind (va_Pc av (zRP D y w)) := by
  intro a U g mk q
  obtain ⟨q0, qP, qK⟩ := q
  exact ⟨q0, qP, va_K.moved (u := U) (U := U.calling g mk a) (Vm.Alike.refl U.vm) qK⟩
theorem zMP_blind {D : va_G} {y : Nat → ClassId} {av : List Value} {w : va_W} {sz : Nat} : FrameBlind (va_Pc av (zMP D y w sz)) := by
  intro a U g mk q
  obtain ⟨q0, q1, qP, qK, qD⟩ := q
  exact ⟨q0, q1, qP, va_K.moved (u := U) (U := U.calling g mk a) (Vm.Alike.refl U.vm) qK, qD⟩
set_option maxHeartbeats 4000000 in
theorem zR.of {l : Launch} {n : MethodName} {ws ws' : List Cond} {rm : Room} {D : va_G} {y : Nat → ClassId} {av : List Value} {w : va_W} {rv : Option Value} {cc : ByteArray} {maxL : Nat} {ret : Option FieldType} {own : String}
    (hy : plainName n.cls = true) (hw : ws = Cond.code n cc maxL ret :: ws') (hlen : (lg_sl av).length ≤ maxL) (ho : n.cls = own)
    (body : ∀ (p : Program) (e : Env) (s : State) (m : MethodId) (args : Array Value) (below : List Frame) (meth : Method) (c : Code) (ls : Array Slot), p.tables.exec = Jvm.exec → c.code = cc → meth.sig.returnType = ret → c.maxLocals = maxL → s.vm.findClass own = some m.cls → (∀ x ∈ ws, x.before args s = true) → meth.locks = false → va_P D vwCl w s.heap → va_K D vwCl (tyL y) s → lv_has ls maxL (lv_args 0 av) → W p l e rm s m args below meth c s.heap [] 0 0 (MQ below (zRQ rv) args s 0 0 (fun _ => False)) (F0 m 0 ls [])) : zR l n ws rm D y av w rv := by
  refine Met.ofW (cc := cc) (maxL := maxL) (ret := ret) hy hw ?_
  intro p e s m args below meth c s₁ B hml hv
  obtain ⟨rfl, hP, hK⟩ := hv
  have hown : s.vm.findClass own = some m.cls := by rw [← ho]; exact findClass_of_methodNamed B.named
  have hl := lv_entry av (n := maxL) hlen
  have hts := atoms_spec (ws := ws) B.pre
  rw [lg_entry_eq]
  exact body p e s m _ below meth c _ B.exec B.bytes B.returns hml hown hts B.notSynchronized hP hK hl
set_option maxHeartbeats 4000000 in
theorem zM.of {l : Launch} {n : MethodName} {ws ws' : List Cond} {rm : Room} {D : va_G} {y : Nat → ClassId} {av : List Value} {w w1 : va_W} {sz : Nat} {rv : Option Value} {mc ms : Nat} {cc : ByteArray} {maxL : Nat} {ret : Option FieldType} {own : String}
    (hy : plainName n.cls = true) (hw : ws = Cond.code n cc maxL ret :: ws') (hlen : (lg_sl av).length ≤ maxL) (ho : n.cls = own)
    (body : ∀ (p : Program) (e : Env) (s : State) (m : MethodId) (args : Array Value) (below : List Frame) (meth : Method) (c : Code) (ls : Array Slot) (A : Nat → Prop), p.tables.exec = Jvm.exec → c.code = cc → meth.sig.returnType = ret → c.maxLocals = maxL → s.vm.findClass own = some m.cls → (∀ x ∈ ws, x.before args s = true) → meth.locks = false → va_P D vwCl w s.heap → va_K D vwCl (tyL y) s → va_D A w → (∀ q : Nat, s.heap.size ≤ q → A q) → va_S A s.heap s.heap [] → lv_has ls maxL (lv_args 0 av) → meth.name = n.name → W p l e rm s m args below meth c s.heap [] 0 0 (MQ below (zMQ rv D w1 A) args s mc ms A) (F0 m 0 ls [])) : zM l n ws rm D y av w sz rv w1 mc ms := by
  refine Met.ofW (cc := cc) (maxL := maxL) (ret := ret) hy hw ?_
  intro p e s m args below meth c s₁ B hml hv
  obtain ⟨rfl, hsz, hP, hK, hD0⟩ := hv
  have hown : s.vm.findClass own = some m.cls := by rw [← ho]; exact findClass_of_methodNamed B.named
  have hl := lv_entry av (n := maxL) hlen
  have hts := atoms_spec (ws := ws) B.pre
  have hin : meth.name = n.name := (name_of_methodNamed B.named B.method).1
  subst hsz
  have hD := hD0.self (sz := s.heap.size)
  rw [lg_entry_eq]
  exact body p e s m _ below meth c _ (va_A w s.heap.size) B.exec B.bytes B.returns hml hown hts B.notSynchronized hP hK hD (fun q h => Or.inr h) va_S.rf hl hin
section ZROWS
variable {p : Program} {l : Launch} {e : Env} {R : Room} {s : State} {m : MethodId} {args : Array Value} {below : List Frame} {meth : Method} {c : Code} {H : Heap} {locs : List Loc} {cells slots : Nat} {Q : State → Prop}
variable {cc : ByteArray} {pc : Nat} {ls : Array Slot} {rest st0 st1 : List Value} {D : va_G} {y : Nat → ClassId} {A0 : Nat → Prop} {H0 : Heap}
/-! ends -/
theorem zR_i {rv : Option Value} {v : Int32} (hx : p.tables.exec = Jvm.exec) (hb : c.code = cc) (hr : meth.sig.returnType = some .int) (hlocks : meth.locks = false) (hdg : decode cc pc = .ok (.ireturn, 1)) (hv : some (Value.int v) = rv) : W p l e R s m args below meth c s.heap [] 0 0 (MQ below (zRQ rv) args s 0 0 (fun _ => False)) (F0 m pc ls [.int v]) := by
  subst hv
  exact W.iret hx hb hr (fun t ht _ => ⟨rfl, ht⟩) (fun q h => nomatch h) hdg hlocks
theorem zb_nar {v : Int32} (h : v = 0 ∨ v = 1) : narrow .boolean (.int v) = .int v := by rcases h with rfl | rfl <;> rfl
theorem zR_z {rv : Option Value} {v : Int32} (hx : p.tables.exec = Jvm.exec) (hb : c.code = cc) (hr : meth.sig.returnType = some .boolean) (hlocks : meth.locks = false) (hdg : decode cc pc = .ok (.ireturn, 1)) (h01 : v = 0 ∨ v = 1) (hv : some (Value.int v) = rv) : W p l e R s m args below meth c s.heap [] 0 0 (MQ below (zRQ rv) args s 0 0 (fun _ => False)) (F0 m pc ls [.int v]) := by
  subst hv
  exact W.zret hx hb hr (zb_nar h01) (fun t ht _ => ⟨rfl, ht⟩) (fun q h => nomatch h) hdg hlocks
theorem zR_l {rv : Option Value} {v : Int64} (hx : p.tables.exec = Jvm.exec) (hb : c.code = cc) (hr : meth.sig.returnType = some .long) (hlocks : meth.locks = false) (hdg : decode cc pc = .ok (.lreturn, 1)) (hv : some (Value.long v) = rv) : W p l e R s m args below meth c s.heap [] 0 0 (MQ below (zRQ rv) args s 0 0 (fun _ => False)) (F0 m pc ls [.long v]) := by
  subst hv
  exact W.lret hx hb hr (fun t ht _ => ⟨rfl, ht⟩) (fun q h => nomatch h) hdg hlocks
theorem zR_d {rv : Option Value} {v : UInt64} (hx : p.tables.exec = Jvm.exec) (hb : c.code = cc) (hr : meth.sig.returnType = some .double) (hlocks : meth.locks = false) (hdg : decode cc pc = .ok (.dreturn, 1)) (hv : some (Value.double v) = rv) : W p l e R s m args below meth c s.heap [] 0 0 (MQ below (zRQ rv) args s 0 0 (fun _ => False)) (F0 m pc ls [.double v]) := by
  subst hv
  exact W.dret hx hb hr (fun t ht _ => ⟨rfl, ht⟩) (fun q h => nomatch h) hdg hlocks
theorem zR_a {rv : Option Value} {v : Value} {o : String} (hx : p.tables.exec = Jvm.exec) (hb : c.code = cc) (hr : meth.sig.returnType = some (.object o)) (hlocks : meth.locks = false) (hdg : decode cc pc = .ok (.areturn, 1)) (hvv : v = .null ∨ ∃ a, v = .ref a) (hv : some v = rv) : W p l e R s m args below meth c s.heap [] 0 0 (MQ below (zRQ rv) args s 0 0 (fun _ => False)) (F0 m pc ls [v]) := by
  subst hv
  exact W.aret hx hb hr (Or.inl ⟨o, rfl⟩) hvv (fun t ht _ => ⟨rfl, ht⟩) (fun q h => nomatch h) hdg hlocks
theorem zM_i {rv : Option Value} {v : Int32} {A : Nat → Prop} {w1 : va_W} (hx : p.tables.exec = Jvm.exec) (hb : c.code = cc) (hr : meth.sig.returnType = some .int) (hlocks : meth.locks = false) (hS : va_S A s.heap H locs) (hdg : decode cc pc = .ok (.ireturn, 1)) (hv : some (Value.int v) = rv) (hP : va_P D vwCl w1 H) : W p l e R s m args below meth c H locs cells slots (MQ below (zMQ rv D w1 A) args s cells slots A) (F0 m pc ls [.int v]) := by
  subst hv
  exact W.iret hx hb hr (fun t ht _ => ⟨⟨rfl, by rw [ht]; exact hP⟩, hS.F ht⟩) hS.2.2 hdg hlocks
theorem zM_z {rv : Option Value} {v : Int32} {A : Nat → Prop} {w1 : va_W} (hx : p.tables.exec = Jvm.exec) (hb : c.code = cc) (hr : meth.sig.returnType = some .boolean) (hlocks : meth.locks = false) (hS : va_S A s.heap H locs) (hdg : decode cc pc = .ok (.ireturn, 1)) (h01 : v = 0 ∨ v = 1) (hv : some (Value.int v) = rv) (hP : va_P D vwCl w1 H) : W p l e R s m args below meth c H locs cells slots (MQ below (zMQ rv D w1 A) args s cells slots A) (F0 m pc ls [.int v]) := by
  subst hv
  exact W.zret hx hb hr (zb_nar h01) (fun t ht _ => ⟨⟨rfl, by rw [ht]; exact hP⟩, hS.F ht⟩) hS.2.2 hdg hlocks
theorem zM_l {rv : Option Value} {v : Int64} {A : Nat → Prop} {w1 : va_W} (hx : p.tables.exec = Jvm.exec) (hb : c.code = cc) (hr : meth.sig.returnType = some .long) (hlocks : meth.locks = false) (hS : va_S A s.heap H locs) (hdg : decode cc pc = .ok (.lreturn, 1)) (hv : some (Value.long v) = rv) (hP : va_P D vwCl w1 H) : W p l e R s m args below meth c H locs cells slots (MQ below (zMQ rv D w1 A) args s cells slots A) (F0 m pc ls [.long v]) := by
  subst hv
  exact W.lret hx hb hr (fun t ht _ => ⟨⟨rfl, by rw [ht]; exact hP⟩, hS.F ht⟩) hS.2.2 hdg hlocks
theorem zM_v {rv : Option Value} {A : Nat → Prop} {w1 : va_W} (hx : p.tables.exec = Jvm.exec) (hb : c.code = cc) (hr : meth.sig.returnType = none) (hlocks : meth.locks = false) (hS : va_S A s.heap H locs) (hdg : decode cc pc = .ok (.return_, 1)) (hv : none = rv) (hP : va_P D vwCl w1 H) : W p l e R s m args below meth c H locs cells slots (MQ below (zMQ rv D w1 A) args s cells slots A) (F0 m pc ls []) := by
  subst hv
  exact W.vret hx hb hr (fun t ht _ => ⟨⟨rfl, by rw [ht]; exact hP⟩, hS.F ht⟩) hS.2.2 hdg hlocks
theorem zM_a {rv : Option Value} {v : Value} {o : String} {A : Nat → Prop} {w1 : va_W} (hx : p.tables.exec = Jvm.exec) (hb : c.code = cc) (hr : meth.sig.returnType = some (.object o)) (hlocks : meth.locks = false) (hS : va_S A s.heap H locs) (hdg : decode cc pc = .ok (.areturn, 1)) (hvv : v = .null ∨ ∃ a, v = .ref a) (hv : some v = rv) (hP : va_P D vwCl w1 H) : W p l e R s m args below meth c H locs cells slots (MQ below (zMQ rv D w1 A) args s cells slots A) (F0 m pc ls [v]) := by
  subst hv
  exact W.aret hx hb hr (Or.inl ⟨o, rfl⟩) hvv (fun t ht _ => ⟨⟨rfl, by rw [ht]; exact hP⟩, hS.F ht⟩) hS.2.2 hdg hlocks
/-! a number on top of the stack, by another name -/
theorem zt_i {x x' : Int32} (h : x = x') (k : W p l e R s m args below meth c H locs cells slots Q (F0 m pc ls (.int x' :: rest))) : W p l e R s m args below meth c H locs cells slots Q (F0 m pc ls (.int x :: rest)) := by subst h; exact k
theorem zt_l {x x' : Int64} (h : x = x') (k : W p l e R s m args below meth c H locs cells slots Q (F0 m pc ls (.long x' :: rest))) : W p l e R s m args below meth c H locs cells slots Q (F0 m pc ls (.long x :: rest)) := by subst h; exact k
/-! rows -/
theorem z_ald (hx : p.tables.exec = Jvm.exec) (hb : c.code = cc) {ws : va_W} (hK : va_K D vwCl (tyL y) s) (hP : va_P D vwCl ws H) {a : Nat} (q0 : Nat) {n : Nat} {f : Nat → Int32} (ha : ws[q0]? = some (a, .inl (y 0, n, .inl f))) {i : Int32} (k : Nat) (hi : i = nI k) (hk : k < n) (hn : n < 2 ^ 31) (hdg : decode cc pc = .ok (.iaload, 1))
    (kk : W p l e R s m args below meth c H locs cells slots Q (F0 m (pc + 1) ls (.int (f k) :: rest))) : W p l e R s m args below meth c H locs cells slots Q (F0 m pc ls (.int i :: .ref a :: rest)) := by
  subst hi
  refine va_iald hx hb hK hP q0 0 ha rfl (vp_in_nI hk hn) hdg ?_
  rw [nI_clamp (Nat.lt_trans hk hn)]
  exact kk
theorem z_ast (hx : p.tables.exec = Jvm.exec) (hb : c.code = cc) {ws ws1 : va_W} (hK : va_K D vwCl (tyL y) s) (hP : va_P D vwCl ws H) (hD : va_D A0 ws) (hS : va_S A0 H0 H locs) {a : Nat} (q0 : Nat) {n : Nat} {f : Nat → Int32} (ha : ws[q0]? = some (a, .inl (y 0, n, .inl f))) {i x : Int32} (k : Nat) (hi : i = nI k) (hk : k < n) (hn : n < 2 ^ 31) (hset : ws.set q0 (a, .inl (y 0, n, .inl (upd f k x))) = ws1) (hdg : decode cc pc = .ok (.iastore, 1))
    (kk : ∀ (H1 : Heap) (locs1 : List Loc), va_P D vwCl ws1 H1 → va_D A0 ws1 → va_S A0 H0 H1 locs1 → W p l e R s m args below meth c H1 locs1 cells slots Q (F0 m (pc + 1) ls rest)) : W p l e R s m args below meth c H locs cells slots Q (F0 m pc ls (.int x :: .int i :: .ref a :: rest)) := by
  subst hi; subst hset
  refine va_iast hx hb hK hP hD hS q0 0 ha rfl (vp_in_nI hk hn) hdg ?_
  rw [nI_clamp (Nat.lt_trans hk hn)]
  exact kk
theorem z_aldq (hx : p.tables.exec = Jvm.exec) (hb : c.code = cc) {ws : va_W} (hK : va_K D vwCl (tyL y) s) (hP : va_P D vwCl ws H) {a : Nat} (q0 t0 : Nat) {n j : Nat} {C : String} {f : Nat → Option Nat} (ha : ws[q0]? = some (a, .inl (y j, n, .inr (.inr (.inr (.inr f)))))) (ht : (tyL y)[t0]? = some (y j, .object C)) {i : Int32} (k b : Nat) (hi : i = nI k) (hk : k < n) (hn : n < 2 ^ 31) (hf : f k = some b) (hdg : decode cc pc = .ok (.aaload, 1))
    (kk : W p l e R s m args below meth c H locs cells slots Q (F0 m (pc + 1) ls (.ref b :: rest))) : W p l e R s m args below meth c H locs cells slots Q (F0 m pc ls (.int i :: .ref a :: rest)) := by
  subst hi
  refine va_aldq hx hb hK hP q0 t0 ha ht (vp_in_nI hk hn) hdg ?_
  rw [nI_clamp (Nat.lt_trans hk hn), hf]
  exact kk
end ZROWS
/-! parts of a world, and what comes back put beside the rest -/
theorem z_sub_P {D : va_G} {ws w : va_W} {H : Heap} (hP : va_P D vwCl ws H) (hs : ∀ x, x ∈ w → x ∈ ws) : va_P D vwCl w H := by
  intro k q hk
  obtain ⟨i, hi⟩ := List.getElem?_of_mem (hs q (List.mem_of_getElem? hk))
  exact hP i q hi
theorem z_sub_F {A0 : Nat → Prop} {ws w : va_W} {H0 H : Heap} {locs : List Loc} (hD : va_D A0 ws) (hS : va_S A0 H0 H locs) (hA : ∀ q : Nat, H0.size ≤ q → A0 q) (hs : ∀ x, x ∈ w → x ∈ ws) : ∀ q : Nat, va_A w H.size q → A0 q := by
  intro q h
  rcases h with ⟨k, e, h⟩ | h
  · obtain ⟨i, hi⟩ := List.getElem?_of_mem (hs _ (List.mem_of_getElem? h))
    exact hD.2 i _ hi
  · exact hA q (Nat.le_trans hS.1 h)
theorem z_in_1 {ws : va_W} {k : Nat} {x : Nat × va_E} (h : ws[k]? = some x) : ∀ z, z ∈ [x] → z ∈ ws := fun z hz => by
  rw [List.mem_singleton.mp hz]
  exact List.mem_of_getElem? h
theorem z_in_m {l1 w l2 : va_W} : ∀ z, z ∈ w → z ∈ l1 ++ (w ++ l2) := fun _ hz => List.mem_append_right _ (List.mem_append_left _ hz)
theorem z_in_r {w : va_W} : ∀ z, z ∈ w → z ∈ w := fun _ hz => hz
theorem z_D_1 {x : Nat × va_E} : va_D (fun _ => True) [x] := by
  refine ⟨fun i j p q hi hj _ => ?_, fun _ _ _ => trivial⟩
  have h1 : i < [x].length := (List.getElem?_eq_some_iff.mp hi).1
  have h2 : j < [x].length := (List.getElem?_eq_some_iff.mp hj).1
  simp at h1 h2
  omega
theorem z_D_T {A : Nat → Prop} {w : va_W} (h : va_D A w) : va_D (fun _ => True) w := ⟨h.1, fun _ _ _ => trivial⟩
theorem z_D_m {A : Nat → Prop} {l1 w l2 : va_W} (h : va_D A (l1 ++ (w ++ l2))) : va_D (fun _ => True) w := by
  have key : ∀ (i : Nat) (q : Nat × va_E), w[i]? = some q → (l1 ++ (w ++ l2))[l1.length + i]? = some q := by
    intro i q hi
    have hl := (List.getElem?_eq_some_iff.mp hi).1
    rw [List.getElem?_append_right (Nat.le_add_right _ _), Nat.add_sub_cancel_left, List.getElem?_append_left hl]
    exact hi
  refine ⟨fun i j p q hi hj hpq => ?_, fun _ _ _ => trivial⟩
  have := h.1 _ _ p q (key i p hi) (key j q hj) hpq
  omega
theorem z_D_adr {A : Nat → Prop} {ws ws1 : va_W} (hD : va_D A ws) (ha : ws1.map Prod.fst = ws.map Prod.fst) : va_D A ws1 := by
  have key : ∀ (k : Nat) (q : Nat × va_E), ws1[k]? = some q → ∃ q0, ws[k]? = some q0 ∧ q0.1 = q.1 := by
    intro k q hk
    have h1 : (ws1.map Prod.fst)[k]? = some q.1 := by rw [List.getElem?_map, hk]; rfl
    rw [ha, List.getElem?_map] at h1
    cases h2 : ws[k]? with
    | none => rw [h2] at h1; cases h1
    | some q0 => rw [h2] at h1; exact ⟨q0, rfl, Option.some.inj h1⟩
  refine ⟨fun i j x z hi hj hxz => ?_, fun k q hk => ?_⟩
  · obtain ⟨x0, h1, h2⟩ := key i x hi
    obtain ⟨z0, h3, h4⟩ := key j z hj
    exact hD.1 i j x0 z0 h1 h3 (h2.trans (hxz.trans h4.symm))
  · obtain ⟨q0, h1, h2⟩ := key k q hk
    rw [← h2]
    exact hD.2 k q0 h1
theorem z_one {D : va_G} {A0 : Nat → Prop} {ws ws1 : va_W} {H H1 : Heap} {k a : Nat} {e e' : va_E} (hP : va_P D vwCl ws H) (hD : va_D A0 ws) (hk : ws[k]? = some (a, e)) (hset : ws.set k (a, e') = ws1) (hP1 : va_P D vwCl [(a, e')] H1) (hfr : ∀ q : Nat, q < H.size → ¬ va_A [(a, e)] H.size q → H1[q]? = H[q]?) : va_P D vwCl ws1 H1 ∧ va_D A0 ws1 := by
  subst hset
  refine ⟨?_, hD.set hk⟩
  intro j q hj
  by_cases hjk : j = k
  · subst hjk
    have hl := (List.getElem?_eq_some_iff.mp hk).1
    rw [List.getElem?_set_self hl] at hj
    cases hj
    exact hP1 0 _ rfl
  · rw [List.getElem?_set_ne (Ne.symm hjk)] at hj
    have h1 := hP j q hj
    refine h1.kept (hfr q.1 h1.lt ?_)
    intro h9
    rcases h9 with ⟨i, e9, h9⟩ | h9
    · have h10 := List.mem_singleton.mp (List.mem_of_getElem? h9)
      exact hjk (hD.1 j k q (a, e) hj hk (show q.1 = a from congrArg Prod.fst h10))
    · exact absurd h1.lt (Nat.not_lt.mpr h9)
theorem z_seg {D : va_G} {A0 : Nat → Prop} {ws ws1 l1 w w1 l2 : va_W} {H H1 : Heap} (hP : va_P D vwCl ws H) (hD : va_D A0 ws) (e0 : ws = l1 ++ (w ++ l2)) (e1 : l1 ++ (w1 ++ l2) = ws1) (had : w1.map Prod.fst = w.map Prod.fst) (hP1 : va_P D vwCl w1 H1) (hfr : ∀ q : Nat, q < H.size → ¬ va_A w H.size q → H1[q]? = H[q]?) : va_P D vwCl ws1 H1 ∧ va_D A0 ws1 := by
  subst e0; subst e1
  have hlen : w1.length = w.length := by
    have := congrArg List.length had
    simpa using this
  refine ⟨?_, z_D_adr hD (by simp [had])⟩
  have far : ∀ (j : Nat) (q : Nat × va_E), (l1 ++ (w ++ l2))[j]? = some q → (j < l1.length ∨ l1.length + w.length ≤ j) → va_at D vwCl q H1 := by
    intro j q hj hout
    have h1 := hP j q hj
    refine h1.kept (hfr q.1 h1.lt ?_)
    intro h9
    rcases h9 with ⟨i, e9, h9⟩ | h9
    · have hl := (List.getElem?_eq_some_iff.mp h9).1
      have h10 : (l1 ++ (w ++ l2))[l1.length + i]? = some (q.1, e9) := by
        rw [List.getElem?_append_right (Nat.le_add_right _ _), Nat.add_sub_cancel_left, List.getElem?_append_left hl]
        exact h9
      have := hD.1 j (l1.length + i) q (q.1, e9) hj h10 rfl
      omega
    · exact absurd h1.lt (Nat.not_lt.mpr h9)
  intro j q hj
  by_cases ha : j < l1.length
  · refine far j q ?_ (Or.inl ha)
    rw [List.getElem?_append_left ha] at hj ⊢
    exact hj
  · rw [List.getElem?_append_right (Nat.not_lt.mp ha)] at hj
    by_cases hb : j - l1.length < w1.length
    · rw [List.getElem?_append_left hb] at hj
      exact hP1 _ q hj
    · refine far j q ?_ (Or.inr (by omega))
      rw [List.getElem?_append_right (Nat.not_lt.mp hb)] at hj
      rw [List.getElem?_append_right (Nat.not_lt.mp ha), List.getElem?_append_right (by omega), ← hlen]
      exact hj
