/-! the law's own methods: each calls one of the class's, and catches what it throws -/
def zNc : List (String × String) := [("java/lang/IllegalArgumentException", "java/lang/IndexOutOfBoundsException"), ("java/lang/IllegalStateException", "java/lang/IllegalArgumentException"), ("java/lang/IllegalStateException", "java/lang/IndexOutOfBoundsException"), ("java/lang/IndexOutOfBoundsException", "java/lang/IllegalArgumentException")]
def zX0 (U : State) : Prop := zT0 U ∧ ∀ x, x ∈ zNc → va_Nc x.1 x.2 U
theorem zT0.grown {u U : State} (hW : u.WarmedH U.vm) (hk : ∀ q : Nat, q < u.heap.size → U.heap[q]? = u.heap[q]?) (h : zT0 u) : zT0 U := by
  obtain ⟨h0, h1, h2, h3⟩ := h
  refine ⟨fun w hw => ?_, ?_, ?_, fun q hq => ?_⟩
  · have h9 := h0 w hw
    rcases List.mem_append.mp hw with h | h
    · obtain ⟨x, -, rfl⟩ := List.mem_map.mp h
      exact va_Nw.warmD hW h9
    · obtain ⟨x, -, rfl⟩ := List.mem_map.mp h
      exact va_Nw.warmC hW h9
  · exact (vx_Zq.moved hW.alike h1).kept (fun a ha _ => hk a ha)
  · exact (vx_Zq.moved hW.alike h2).kept (fun a ha _ => hk a ha)
  · obtain ⟨sa, h⟩ := h3 q hq
    exact ⟨sa, vk_R.warm hW h⟩
theorem zX0.grown {u U : State} (hW : u.WarmedH U.vm) (hk : ∀ q : Nat, q < u.heap.size → U.heap[q]? = u.heap[q]?) (h : zX0 u) : zX0 U := ⟨h.1.grown hW hk, fun x hx => va_Nc.moved hW.alike (h.2 x hx)⟩
theorem zX0.moved {u U : State} (hW : u.WarmedH U.vm) (hh : U.heap = u.heap) (h : zX0 u) : zX0 U := h.grown hW (fun q _ => by rw [hh])
abbrev HR : Room := { frames := 7, cells := 1, slots := 6, locals := 200 }
def zHP (D : va_G) (y : Nat → ClassId) (w : va_W) (sz : Nat) : State → Prop := fun U => zMP D y w sz U ∧ zX0 U
def zH (l : Launch) (n : MethodName) (ws : List Cond) (D : va_G) (y : Nat → ClassId) (av : List Value) (w : va_W) (sz : Nat) (k : Int32) (w1 : va_W) : Prop := Met l n ws HR (va_Pc av (zHP D y w sz)) (zMQ (some (.int k)) D w1 (va_A w sz)) 1 6 (va_A w sz)
theorem zHP_blind {D : va_G} {y : Nat → ClassId} {av : List Value} {w : va_W} {sz : Nat} : FrameBlind (va_Pc av (zHP D y w sz)) := by
  intro a U g mk q
  obtain ⟨q0, ⟨q1, qP, qK, qD⟩, qX⟩ := q
  exact ⟨q0, ⟨q1, qP, va_K.moved (u := U) (U := U.calling g mk a) (Vm.Alike.refl U.vm) qK, qD⟩, qX.moved (u := U) (U := U.calling g mk a) (State.WarmedH.refl U) rfl⟩
set_option maxHeartbeats 4000000 in
theorem zH.of {l : Launch} {n : MethodName} {ws ws' : List Cond} {D : va_G} {y : Nat → ClassId} {av : List Value} {w w1 : va_W} {sz : Nat} {k : Int32} {cc : ByteArray} {maxL : Nat} {ret : Option FieldType} {own : String} {hh : List (Nat × Nat × Nat × Nat)}
    (hy : plainName n.cls = true) (hw : ws = Cond.codeWith n cc maxL ret hh :: ws') (hlen : (lg_sl av).length ≤ maxL) (ho : n.cls = own)
    (body : ∀ (p : Program) (e : Env) (s : State) (m : MethodId) (args : Array Value) (below : List Frame) (meth : Method) (c : Code) (ls : Array Slot) (A : Nat → Prop), p.tables.exec = Jvm.exec → c.code = cc → meth.sig.returnType = ret → c.maxLocals = maxL → s.vm.findClass own = some m.cls → (∀ x ∈ ws, x.before args s = true) → meth.locks = false → c.exceptionTable.toList = tableOf hh → va_P D vwCl w s.heap → va_K D vwCl (tyL y) s → va_D A w → (∀ q : Nat, s.heap.size ≤ q → A q) → zX0 s → lv_has ls maxL (lv_args 0 av) → W p l e HR s m args below meth c s.heap [] 0 0 (MQ below (zMQ (some (.int k)) D w1 A) args s 1 6 A) (F0 m 0 ls [])) : zH l n ws D y av w sz k w1 := by
  refine va_MetW (cc := cc) (maxL := maxL) (ret := ret) (hh := hh) hy hw ?_
  intro p e s m args below meth c s₁ B hml hv
  obtain ⟨rfl, ⟨hsz, hP, hK, hD0⟩, hX⟩ := hv
  have hown : s.vm.findClass own = some m.cls := by rw [← ho]; exact findClass_of_methodNamed B.named
  have hl := lv_entry av (n := maxL) hlen
  have hts := atoms_spec (ws := ws) B.pre
  have hct : c.exceptionTable.toList = tableOf hh := vx_table (x := n) B (hts _ (by rw [hw]; exact List.mem_cons_self))
  subst hsz
  have hD := hD0.self (sz := s.heap.size)
  rw [lg_entry_eq]
  exact body p e s m _ below meth c _ (va_A w s.heap.size) B.exec B.bytes B.returns hml hown hts B.notSynchronized hct hP hK hD (fun q h => Or.inr h) hX hl
section HKIT
variable {p : Program} {l : Launch} {e : Env} {R : Room} {s : State} {m : MethodId} {args : Array Value} {below : List Frame} {meth : Method} {c : Code} {H : Heap} {locs : List Loc} {cells slots cells1 slots1 : Nat} {Q : State → Prop}
variable {cc : ByteArray} {pc : Nat} {ls : Array Slot} {rest st0 st1 : List Value} {D : va_G} {y : Nat → ClassId} {A0 : Nat → Prop} {H0 : Heap} {a : Array Value}
variable {n : MethodName} {bytes : ByteArray} {maxL nL mc ms k index : Nat} {ret : Option FieldType} {ws : List Cond} {rm : Room} {Ts : List Cond} {own C : String} {b : Nat} {As : List Value} {w w1 : va_W} {rv : Option Value}
theorem h_ret {A : Nat → Prop} {v : Int32} (hc : cells ≤ 1) (hs : slots ≤ 6) (hx : p.tables.exec = Jvm.exec) (hb : c.code = cc) (hr : meth.sig.returnType = some .int) (hlocks : meth.locks = false) (hS : va_S A s.heap H locs) (hdg : decode cc pc = .ok (.ireturn, 1)) (hP : va_P D vwCl w1 H) : W p l e R s m args below meth c H locs cells slots (MQ below (zMQ (some (.int v)) D w1 A) args s 1 6 A) (F0 m pc ls [.int v]) := by
  refine W.widen (k := 1) (n := 6) hc hs ?_
  exact zM_i hx hb hr hlocks hS hdg rfl hP
theorem h_cast {E : String} (h : zX0 s) (hE : (E, E) ∈ zBc) : (Cond.castable E E).before args s = true := va_Nw.use rfl (h.1.1 _ (List.mem_append_right _ (List.mem_map.mpr ⟨(E, E), hE, rfl⟩)))
theorem lv_lcmp0 (hexec : p.tables.exec = Jvm.exec) (hb : c.code = cc) {x : Int64} (hdg : decode cc pc = .ok (.lcmp, 1))
    (k : W p l e R s m args below meth c H locs cells slots Q (F0 m (pc + 1) ls (.int 0 :: rest))) : W p l e R s m args below meth c H locs cells slots Q (F0 m pc ls (.long x :: .long x :: rest)) := by
  intro T hT X
  obtain ⟨t, a, b⟩ := k T hT X
  have hx : ¬ x < x := Int64.lt_irrefl
  refine ⟨t, ?_, b⟩
  jvm_step X.here [X.here.top, hexec, hb, hdg, hx]
  exact a
/-- a static call of one of the law's own methods -/
theorem zcHS {k9 : Int32} {hh : List (Nat × Nat × Nat × Nat)} (S : CallFix p m c cc nL s args Ts own) (hM : zH l n ws D y As w H.size k9 w1) (cw : vx_CSW R s args own index n bytes maxL ret hh ws HR 1 6 k) (hX : ∀ U : State, U.heap = H → s.WarmedH U.vm → zX0 U) (hK : va_K D vwCl (tyL y) s) (hP : va_P D vwCl w H) (hD : va_D (fun _ => True) w) (hn : As.length = k) (hsz : ls.size = nL) (hst : st0 = As.reverse ++ rest) (hW : 2 * (F0 m pc ls (As.reverse ++ rest)).monitorRoom + (rest.map fun v => v.category).sum ≤ 8) (hdg : decode cc pc = .ok (.invokestatic index, 3)) (hS : va_S A0 H0 H locs) (hF : ∀ q : Nat, va_A w H.size q → A0 q) (hf : cells + 1 ≤ R.cells ∧ slots + 6 ≤ R.slots) (hst1 : .int k9 :: rest = st1) (hc1 : cells + 1 = cells1) (hs1 : slots + 6 = slots1)
    (kk : ∀ (H1 : Heap) (locs1 : List Loc), va_P D vwCl w1 H1 → H.size ≤ H1.size → (∀ q : Nat, q < H.size → ¬ va_A w H.size q → H1[q]? = H[q]?) → va_S A0 H0 H1 locs1 → W p l e R s m args below meth c H1 locs1 cells1 slots1 Q (F0 m (pc + 3) ls st1)) : W p l e R s m args below meth c H locs cells slots Q (F0 m pc ls st0) := by
  subst hst
  exact zRun_M (vx_runSW (As := As) (rest := rest) (g := F0 m pc ls (As.reverse ++ rest)) (locs := locs) S hM cw ⟨zHP_blind, fun U hU hW => ⟨rfl, ⟨by rw [hU], by rw [hU]; exact hP, va_K.moved hW.alike hK, hD⟩, hX U hU hW⟩⟩ rfl hn hsz rfl hW hdg ⟨hf.1, hf.2⟩) hst1 hc1 hs1 hS hF hF kk
end HKIT
theorem z_at_end (w : va_W) (x : Nat × va_E) : (w ++ [x])[w.length]? = some x := by simp
theorem z_set_end (w : va_W) (x z : Nat × va_E) : (w ++ [x]).set w.length z = w ++ [z] := by simp
/-- the one place where answers are put -/
def oC (O : Nat) (y : Nat → ClassId) (g : Nat → Int64) : Nat × va_E := (O, .inl (y 3, 1, .inr (.inl g)))
