/-- the texts of the class, by their places -/
def zStr : List (Nat × String) := [(25, "place, stakes or rent is out of bounds"), (36, "there are 6 weirs"), (49, "no such weir"), (58, "the weir is forfeit"), (64, "much is not 1 to 100"), (72, "forfeit, too much wattle or too few coins"), (74, "stakes is not 1 to 30"), (79, "forfeit, too many stakes or too few coins"), (84, "the weir is forfeit or has no eels"), (94, "night is not 0 to 6"), (96, "eels is not 0 to 99"), (106, "wide is not 1 to 20"), (111, "5 barges are under way"), (116, "no such weir, or what is not 0 to 7"), (125, "no such barge, or what is not 0 to 3"), (131, "what is not 0 to 9"), (140, "nights is not 1 to 60"), (156, "no such barge"), (167, "nights is not 1 to 56"), (169, "what is not 4, 6, 7, 8 or 9"), (171, "nights is not 1 to 20")]
/-! methods that throw: what a throw needs of its start; a contract that throws; its end; its call -/
def zXn : List String := ["java/lang/RuntimeException", "java/lang/Exception"]
def zBd : List MethodName := [Bundle.initS "java/lang/RuntimeException", Bundle.initS "java/lang/Exception", Bundle.initS Bundle.tN]
def zBc : List (String × String) := [("java/lang/IllegalArgumentException", "java/lang/IllegalArgumentException"), ("java/lang/IllegalStateException", "java/lang/IllegalStateException"), ("java/lang/IndexOutOfBoundsException", "java/lang/IndexOutOfBoundsException")]
def zB : List Cond := zBd.map (fun x => .declares x) ++ zBc.map (fun x => .castable x.1 x.2)
def zT0 (U : State) : Prop := (∀ w, w ∈ zB → va_Nw w U) ∧ vx_Zq Bundle.tN "UNASSIGNED_STACK" Bundle.steD (fun _ => False) U U.heap ∧ vx_Zq Bundle.tN "SUPPRESSED_SENTINEL" Bundle.listD (fun _ => False) U U.heap ∧ ∀ q, q ∈ zStr → ∃ sa, vk_R RX3 q.1 q.2 sa U
theorem zT0.moved {u U : State} (hW : u.WarmedH U.vm) (hh : U.heap = u.heap) (h : zT0 u) : zT0 U := by
  obtain ⟨h0, h1, h2, h3⟩ := h
  refine ⟨fun w hw => ?_, ?_, ?_, fun q hq => ?_⟩
  · have h9 := h0 w hw
    rcases List.mem_append.mp hw with h | h
    · obtain ⟨x, -, rfl⟩ := List.mem_map.mp h
      exact va_Nw.warmD hW h9
    · obtain ⟨x, -, rfl⟩ := List.mem_map.mp h
      exact va_Nw.warmC hW h9
  · rw [hh]; exact vx_Zq.moved hW.alike h1
  · rw [hh]; exact vx_Zq.moved hW.alike h2
  · obtain ⟨sa, h⟩ := h3 q hq
    exact ⟨sa, vk_R.warm hW h⟩
def zTP (D : va_G) (y : Nat → ClassId) (w : va_W) : State → Prop := fun U => va_P D vwCl w U.heap ∧ va_K D vwCl (tyL y) U ∧ zT0 U
def zXC (E0 : String) : String → State → State → Prop := fun E st t => E = E0 ∧ st.heap.size ≤ t.heap.size ∧ ∀ q : Nat, q < st.heap.size → t.heap[q]? = st.heap[q]?
def zT (l : Launch) (n : MethodName) (ws : List Cond) (rm : Room) (D : va_G) (y : Nat → ClassId) (av : List Value) (w : va_W) (E0 : String) : Prop := vx_Met l n ws rm (va_Pc av (zTP D y w)) (fun _ _ _ _ => False) (zXC E0) 1 6 (fun _ => False)
theorem zTP_blind {D : va_G} {y : Nat → ClassId} {av : List Value} {w : va_W} : FrameBlind (va_Pc av (zTP D y w)) := by
  intro a U g mk q
  obtain ⟨q0, qP, qK, qT⟩ := q
  exact ⟨q0, qP, va_K.moved (u := U) (U := U.calling g mk a) (Vm.Alike.refl U.vm) qK, qT.moved (u := U) (U := U.calling g mk a) (State.WarmedH.refl U) rfl⟩
set_option maxHeartbeats 4000000 in
theorem zT.of {l : Launch} {n : MethodName} {ws ws' : List Cond} {rm : Room} {D : va_G} {y : Nat → ClassId} {av : List Value} {w : va_W} {E0 : String} {cc : ByteArray} {maxL : Nat} {ret : Option FieldType} {own : String}
    (hy : plainName n.cls = true) (hw : ws = Cond.code n cc maxL ret :: ws') (hlen : (lg_sl av).length ≤ maxL) (ho : n.cls = own)
    (body : ∀ (p : Program) (e : Env) (s : State) (m : MethodId) (args : Array Value) (below : List Frame) (meth : Method) (c : Code) (ls : Array Slot), p.tables.exec = Jvm.exec → c.code = cc → meth.sig.returnType = ret → c.maxLocals = maxL → s.vm.findClass own = some m.cls → (∀ x ∈ ws, x.before args s = true) → meth.locks = false → va_P D vwCl w s.heap → va_K D vwCl (tyL y) s → zT0 s → (∀ x ∈ c.exceptionTable.toList, False) → lv_has ls maxL (lv_args 0 av) → W p l e rm s m args below meth c s.heap [] 0 0 (vx_MQ below (fun _ _ _ _ => False) (zXC E0) args s 1 6 (fun _ => False)) (F0 m 0 ls [])) : zT l n ws rm D y av w E0 := by
  refine vx_ofW (cc := cc) (maxL := maxL) (ret := ret) hy hw ?_
  intro p e s m args below meth c s₁ B hml ht hv
  obtain ⟨rfl, hP, hK, hT⟩ := hv
  have hown : s.vm.findClass own = some m.cls := by rw [← ho]; exact findClass_of_methodNamed B.named
  have hl := lv_entry av (n := maxL) hlen
  have hts := atoms_spec (ws := ws) B.pre
  rw [lg_entry_eq]
  exact body p e s m _ below meth c _ B.exec B.bytes B.returns hml hown hts B.notSynchronized hP hK hT ht hl
set_option maxHeartbeats 4000000 in
theorem z_thr {p : Program} {l : Launch} {e : Env} {R : Room} {s : State} {m : MethodId} {args : Array Value} {below : List Frame} {meth : Method} {c : Code} {cc : ByteArray} {pc : Nat} {ls : Array Slot} {rest : List Value} {cls text : String} {ik is ic maxL : Nat} {ws : List Cond}
    (hx : p.tables.exec = Jvm.exec) (hb : c.code = cc) (hl0 : l.stackTraces = false) (hown : s.vm.findClass RX3 = some m.cls) (hcls : Bundle.fit cls = true) (hk : (Cond.classLink RX3 ik cls).before args s = true) (hini : (Cond.initialized cls).before args s = true)
    (hts : ∀ x ∈ ws, x.before args s = true) (hat : ∀ x ∈ (vx_atS RX3 ic cls zXn).filter goodWord, x ∈ ws) (hbad : ∀ x ∈ (vx_atS RX3 ic cls zXn).filter (fun w => !goodWord w), x ∈ zB) (hgood : ∀ x ∈ Cond.classLink RX3 ik cls :: Cond.initialized cls :: vx_atS RX3 ic cls zXn, vx_ot x = true)
    (hT : zT0 s) (hstr : (is, text) ∈ zStr) (hsz : ls.size = maxL) (hml : c.maxLocals = maxL)
    (d0 : decode cc pc = .ok (.new ik, 3)) (d3 : decode cc (pc + 3) = .ok (.dup, 1)) (d4 : decode cc (pc + 4) = .ok (.ldc is, 2)) (d6 : decode cc (pc + 6) = .ok (.invokespecial ic, 3)) (d9 : decode cc (pc + 9) = .ok (.athrow, 1))
    (hout : ∀ x ∈ c.exceptionTable.toList, False) (hRf : 5 < R.frames) (hRl : (rest.map fun v => v.category).sum + 82 ≤ R.locals) (hRc : 1 ≤ R.cells) (hRs : 6 ≤ R.slots) (hlocks : meth.locks = false) :
    W p l e R s m args below meth c s.heap [] 0 0 (vx_MQ below (fun _ _ _ _ => False) (zXC cls) args s 1 6 (fun _ => False)) (F0 m pc ls rest) := by
  obtain ⟨h0, h1, h2, h3⟩ := hT
  obtain ⟨sa, hsa⟩ := h3 _ hstr
  have hB : ∀ w ∈ zB, w.before args s = true := fun w hw => by
    have h9 := h0 w hw
    rcases List.mem_append.mp hw with h | h
    · obtain ⟨x, -, rfl⟩ := List.mem_map.mp h
      exact va_Nw.use rfl h9
    · obtain ⟨x, -, rfl⟩ := List.mem_map.mp h
      exact va_Nw.use rfl h9
  exact vx_throwS (names := zXn) (A := fun _ => False) hx hb hl0 hown hcls (by decide +kernel) hk hini hsa (vx_hat (fun x h => hts x (hat x h)) hbad hB) hgood h1 h2 va_S.rf (hsz.trans hml.symm) d0 d3 d4 d6 d9 (fun x h => (hout x h).elim) hRf hRl (by omega) (by omega) hlocks
    (fun t _ h4 h5 => ⟨rfl, h4, h5⟩) (fun z h => nomatch h) (by omega) (by omega)
section ZTC
variable {p : Program} {l : Launch} {e : Env} {R : Room} {s : State} {m : MethodId} {args : Array Value} {below : List Frame} {meth : Method} {c : Code} {H : Heap} {locs : List Loc} {cells slots : Nat} {Q : State → Prop}
variable {cc : ByteArray} {pc : Nat} {ls : Array Slot} {rest st0 : List Value} {D : va_G} {y : Nat → ClassId}
variable {n : MethodName} {bytes : ByteArray} {maxL nL k index : Nat} {ret : Option FieldType} {ws : List Cond} {rm : Room} {Ts : List Cond} {own C E0 : String} {b : Nat} {As : List Value} {w : va_W}
/-- a call that throws -/
theorem zcTV (S : CallFix p m c cc nL s args Ts own) (hM : zT l n ws rm D y (.ref b :: As) w E0) (cw : CallW R s args own C index n bytes maxL ret ws rm 1 6 k) (hK : va_K D vwCl (tyL y) s) (hP : va_P D vwCl w H) (hT : ∀ U : State, U.heap = H → s.WarmedH U.vm → zT0 U) {ci q0 : Nat} {qc : vw_C} {fs : List Value} (hc : vwCl[ci]? = some qc) (hcC : qc.1 = C) (he : w[q0]? = some (b, .inr (ci, fs)))
    (hn : As.length = k) (hsz : ls.size = nL) (hst : st0 = As.reverse ++ .ref b :: rest) (hW : 2 * (F0 m pc ls (As.reverse ++ .ref b :: rest)).monitorRoom + (rest.map fun v => v.category).sum ≤ 8) (hdg : decode cc pc = .ok (.invokevirtual index, 3)) (hf : cells + 1 ≤ R.cells ∧ slots + 6 ≤ R.slots)
    (kx : ∀ (H1 : Heap) (q9 : Addr) (ce : Cell), H.size ≤ H1.size → (∀ q : Nat, q < H.size → H1[q]? = H[q]?) → H1[q9]? = some ce → ce.vm = .none → s.vm.findClass E0 = some ce.cls → vx_W p l e R s m args below meth c H1 locs (cells + 1) (slots + 6) Q (F0 m pc ls rest) q9) : W p l e R s m args below meth c H locs cells slots Q (F0 m pc ls st0) := by
  subst hst
  have hr := vx_runV (As := As) (rest := rest) (g := F0 m pc ls (As.reverse ++ .ref b :: rest)) (locs := locs) (H := H) (l := l) (e := e) (below := below) (meth := meth) (R := R) (cells := cells) (slots := slots) S hM cw ⟨zTP_blind, by subst hcC; exact va_recv hK hP hc he, fun U hU hW => ⟨rfl, by rw [hU]; exact hP, va_K.moved hW.alike hK, hT U hU hW⟩⟩ rfl hn hsz rfl hW hdg hf
  intro T hT9 X
  rcases hr T hT9 X with ⟨v, st₀, t, T', L, h0, X', hL, e1, e2, hq, st⟩ | ⟨q, st₀, t, T', L, E, ce, h0, X', hL, e1, e2, ⟨rfl, hz, hk⟩, hce, hcv, hcl, st⟩
  · exact hq.elim
  · rw [h0] at hz hk
    have X2 := Stand.forget X' (fun q h => (hL q h).elim)
    obtain ⟨t2, a1, b1⟩ := kx T'.heap q ce (by rw [e1]; exact hz) (fun q h => by rw [e1]; exact hk q h) (by rw [e1]; exact hce) hcv hcl T' rfl X2
    exact ⟨t2, st.trans a1, b1⟩
end ZTC
