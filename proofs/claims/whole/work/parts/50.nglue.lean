/-! the same for methods that reach into a nest mate: what is given of the links besides -/
def zNF : List (String × Nat × String × String × String × String) := [("StakeWeirsModel", 49, "StakeWeirsModel$State", "stakes", "[I", "StakeWeirsModel"), ("StakeWeirsModel", 52, "StakeWeirsModel$State", "wattle", "[I", "StakeWeirsModel"), ("StakeWeirsModel", 55, "StakeWeirsModel$State", "coins", "[I", "StakeWeirsModel"), ("StakeWeirsModel", 68, "StakeWeirsModel$State", "eels", "[I", "StakeWeirsModel"), ("StakeWeirsModel", 65, "StakeWeirsModel$State", "open", "[I", "StakeWeirsModel"), ("StakeWeirsModel", 84, "StakeWeirsModel$State", "owes", "[I", "StakeWeirsModel"), ("StakeWeirsModel", 42, "StakeWeirsModel$State", "barges", "I", "StakeWeirsModel"), ("StakeWeirsModel", 75, "StakeWeirsModel$State", "wide", "[I", "StakeWeirsModel"), ("StakeWeirsModel", 78, "StakeWeirsModel$State", "at", "[I", "StakeWeirsModel"), ("StakeWeirsModel", 81, "StakeWeirsModel$State", "broken", "[I", "StakeWeirsModel"), ("StakeWeirsModel", 121, "StakeWeirsModel$State", "was", "[I", "StakeWeirsModel"), ("StakeWeirsModel", 107, "StakeWeirsModel$State", "arrived", "I", "StakeWeirsModel"), ("StakeWeirsModel$State", 72, "StakeWeirsModel", "table", "[I", "StakeWeirsModel"), ("StakeWeirsModel$State", 86, "StakeWeirsModel", "weirs", "I", "StakeWeirsModel"), ("StakeWeirsModel$State", 89, "StakeWeirsModel", "place", "[I", "StakeWeirsModel"), ("StakeWeirsModel$State", 108, "StakeWeirsModel", "rent", "[I", "StakeWeirsModel")]
def zN0 (U : State) : Prop := ∀ x, x ∈ zNF → va_Nw (.fieldLinkNest x.1 x.2.1 x.2.2.1 x.2.2.2.1 x.2.2.2.2.1 x.2.2.2.2.2) U
theorem zN0.moved {u U : State} (hW : u.WarmedH U.vm) (h : zN0 u) : zN0 U := fun x hx => va_Nw.warmF hW (h x hx)
def zRPN (D : va_G) (y : Nat → ClassId) (w : va_W) : State → Prop := fun U => zRP D y w U ∧ zN0 U
def zMPN (D : va_G) (y : Nat → ClassId) (w : va_W) (sz : Nat) : State → Prop := fun U => zMP D y w sz U ∧ zN0 U
def zRN (l : Launch) (n : MethodName) (ws : List Cond) (rm : Room) (D : va_G) (y : Nat → ClassId) (av : List Value) (w : va_W) (rv : Option Value) : Prop := Met l n ws rm (va_Pc av (zRPN D y w)) (zRQ rv) 0 0 (fun _ => False)
def zMN (l : Launch) (n : MethodName) (ws : List Cond) (rm : Room) (D : va_G) (y : Nat → ClassId) (av : List Value) (w : va_W) (sz : Nat) (rv : Option Value) (w1 : va_W) (mc ms : Nat) : Prop := Met l n ws rm (va_Pc av (zMPN D y w sz)) (zMQ rv D w1 (va_A w sz)) mc ms (va_A w sz)
theorem zRPN_blind {D : va_G} {y : Nat → ClassId} {av : List Value} {w : va_W} : FrameBlind (va_Pc av (zRPN D y w)) := by
  intro a U g mk q
  obtain ⟨q0, ⟨qP, qK⟩, qN⟩ := q
  exact ⟨q0, ⟨qP, va_K.moved (u := U) (U := U.calling g mk a) (Vm.Alike.refl U.vm) qK⟩, qN.moved (u := U) (U := U.calling g mk a) (State.WarmedH.refl U)⟩
theorem zMPN_blind {D : va_G} {y : Nat → ClassId} {av : List Value} {w : va_W} {sz : Nat} : FrameBlind (va_Pc av (zMPN D y w sz)) := by
  intro a U g mk q
  obtain ⟨q0, ⟨q1, qP, qK, qD⟩, qN⟩ := q
  exact ⟨q0, ⟨q1, qP, va_K.moved (u := U) (U := U.calling g mk a) (Vm.Alike.refl U.vm) qK, qD⟩, qN.moved (u := U) (U := U.calling g mk a) (State.WarmedH.refl U)⟩
set_option maxHeartbeats 4000000 in
theorem zRN.of {l : Launch} {n : MethodName} {ws ws' : List Cond} {rm : Room} {D : va_G} {y : Nat → ClassId} {av : List Value} {w : va_W} {rv : Option Value} {cc : ByteArray} {maxL : Nat} {ret : Option FieldType} {own : String}
    (hy : plainName n.cls = true) (hw : ws = Cond.code n cc maxL ret :: ws') (hlen : (lg_sl av).length ≤ maxL) (ho : n.cls = own)
    (body : ∀ (p : Program) (e : Env) (s : State) (m : MethodId) (args : Array Value) (below : List Frame) (meth : Method) (c : Code) (ls : Array Slot), p.tables.exec = Jvm.exec → c.code = cc → meth.sig.returnType = ret → c.maxLocals = maxL → s.vm.findClass own = some m.cls → (∀ x ∈ ws, x.before args s = true) → meth.locks = false → va_P D vwCl w s.heap → va_K D vwCl (tyL y) s → zN0 s → lv_has ls maxL (lv_args 0 av) → W p l e rm s m args below meth c s.heap [] 0 0 (MQ below (zRQ rv) args s 0 0 (fun _ => False)) (F0 m 0 ls [])) : zRN l n ws rm D y av w rv := by
  refine Met.ofW (cc := cc) (maxL := maxL) (ret := ret) hy hw ?_
  intro p e s m args below meth c s₁ B hml hv
  obtain ⟨rfl, ⟨hP, hK⟩, hN⟩ := hv
  have hown : s.vm.findClass own = some m.cls := by rw [← ho]; exact findClass_of_methodNamed B.named
  have hl := lv_entry av (n := maxL) hlen
  have hts := atoms_spec (ws := ws) B.pre
  rw [lg_entry_eq]
  exact body p e s m _ below meth c _ B.exec B.bytes B.returns hml hown hts B.notSynchronized hP hK hN hl
set_option maxHeartbeats 4000000 in
theorem zMN.of {l : Launch} {n : MethodName} {ws ws' : List Cond} {rm : Room} {D : va_G} {y : Nat → ClassId} {av : List Value} {w w1 : va_W} {sz : Nat} {rv : Option Value} {mc ms : Nat} {cc : ByteArray} {maxL : Nat} {ret : Option FieldType} {own : String}
    (hy : plainName n.cls = true) (hw : ws = Cond.code n cc maxL ret :: ws') (hlen : (lg_sl av).length ≤ maxL) (ho : n.cls = own)
    (body : ∀ (p : Program) (e : Env) (s : State) (m : MethodId) (args : Array Value) (below : List Frame) (meth : Method) (c : Code) (ls : Array Slot) (A : Nat → Prop) (H : Heap) (locs : List Loc), p.tables.exec = Jvm.exec → c.code = cc → meth.sig.returnType = ret → c.maxLocals = maxL → s.vm.findClass own = some m.cls → (∀ x ∈ ws, x.before args s = true) → meth.locks = false → va_P D vwCl w H → va_K D vwCl (tyL y) s → va_D A w → (∀ q : Nat, s.heap.size ≤ q → A q) → va_S A s.heap H locs → zN0 s → lv_has ls maxL (lv_args 0 av) → meth.name = n.name → W p l e rm s m args below meth c H locs 0 0 (MQ below (zMQ rv D w1 A) args s mc ms A) (F0 m 0 ls [])) : zMN l n ws rm D y av w sz rv w1 mc ms := by
  refine Met.ofW (cc := cc) (maxL := maxL) (ret := ret) hy hw ?_
  intro p e s m args below meth c s₁ B hml hv
  obtain ⟨rfl, ⟨hsz, hP, hK, hD0⟩, hN⟩ := hv
  have hown : s.vm.findClass own = some m.cls := by rw [← ho]; exact findClass_of_methodNamed B.named
  have hl := lv_entry av (n := maxL) hlen
  have hts := atoms_spec (ws := ws) B.pre
  have hin : meth.name = n.name := (name_of_methodNamed B.named B.method).1
  subst hsz
  have hD := hD0.self (sz := s.heap.size)
  rw [lg_entry_eq]
  exact body p e s m _ below meth c _ (va_A w s.heap.size) s.heap [] B.exec B.bytes B.returns hml hown hts B.notSynchronized hP hK hD (fun q h => Or.inr h) va_S.rf hN hl hin
section ZCALLSN
variable {p : Program} {l : Launch} {e : Env} {R : Room} {s : State} {m : MethodId} {args : Array Value} {below : List Frame} {meth : Method} {c : Code} {H : Heap} {locs : List Loc} {cells slots cells1 slots1 : Nat} {Q : State → Prop}
variable {cc : ByteArray} {pc : Nat} {ls : Array Slot} {rest st0 st1 : List Value} {D : va_G} {y : Nat → ClassId} {A0 : Nat → Prop} {H0 : Heap} {a : Array Value}
variable {n : MethodName} {bytes : ByteArray} {maxL nL mc ms k index : Nat} {ret : Option FieldType} {ws : List Cond} {rm : Room} {Ts : List Cond} {own C : String} {b : Nat} {As : List Value} {w w1 : va_W} {rv : Option Value}
theorem zcNRV (S : CallFix p m c cc nL s args Ts own) (hM : zRN l n ws rm D y (.ref b :: As) w rv) (cw : CallW R s args own C index n bytes maxL ret ws rm 0 0 k) (hN : zN0 s) (hK : va_K D vwCl (tyL y) s) (hP : va_P D vwCl w H) {ci q0 : Nat} {qc : vw_C} {fs : List Value} (hc : vwCl[ci]? = some qc) (hcC : qc.1 = C) (he : w[q0]? = some (b, .inr (ci, fs))) (hn : As.length = k) (hsz : ls.size = nL) (hst : st0 = As.reverse ++ .ref b :: rest) (hW : 2 * (F0 m pc ls (As.reverse ++ .ref b :: rest)).monitorRoom + (rest.map fun v => v.category).sum ≤ 8) (hdg : decode cc pc = .ok (.invokevirtual index, 3)) (hf : cells ≤ R.cells ∧ slots ≤ R.slots) (hst1 : rv.toList ++ rest = st1)
    (kk : W p l e R s m args below meth c H locs cells slots Q (F0 m (pc + 3) ls st1)) : W p l e R s m args below meth c H locs cells slots Q (F0 m pc ls st0) := by
  subst hst
  exact zRun_R (va_runV (As := As) (rest := rest) (g := F0 m pc ls (As.reverse ++ .ref b :: rest)) (locs := locs) S hM cw ⟨zRPN_blind, by subst hcC; exact va_recv hK hP hc he, fun U hU hW => ⟨rfl, ⟨by rw [hU]; exact hP, va_K.moved hW.alike hK⟩, hN.moved hW⟩⟩ rfl hn hsz rfl hW hdg ⟨hf.1, hf.2⟩) hst1 kk
theorem zcNRS (S : CallFix p m c cc nL s args Ts own) (hM : zRN l n ws rm D y As w rv) (cw : CallB R s args own index n bytes maxL ret ws rm 0 0 k ∧ (Cond.static n).before args s = true) (hN : zN0 s) (hK : va_K D vwCl (tyL y) s) (hP : va_P D vwCl w H) (hn : As.length = k) (hsz : ls.size = nL) (hst : st0 = As.reverse ++ rest) (hW : 2 * (F0 m pc ls (As.reverse ++ rest)).monitorRoom + (rest.map fun v => v.category).sum ≤ 8) (hdg : decode cc pc = .ok (.invokestatic index, 3)) (hf : cells ≤ R.cells ∧ slots ≤ R.slots) (hst1 : rv.toList ++ rest = st1)
    (kk : W p l e R s m args below meth c H locs cells slots Q (F0 m (pc + 3) ls st1)) : W p l e R s m args below meth c H locs cells slots Q (F0 m pc ls st0) := by
  subst hst
  exact zRun_R (va_runS (As := As) (rest := rest) (g := F0 m pc ls (As.reverse ++ rest)) (locs := locs) S hM cw ⟨zRPN_blind, fun U hU hW => ⟨rfl, ⟨by rw [hU]; exact hP, va_K.moved hW.alike hK⟩, hN.moved hW⟩⟩ rfl hn hsz rfl hW hdg ⟨hf.1, hf.2⟩) hst1 kk
theorem zcNMV (S : CallFix p m c cc nL s args Ts own) (hM : zMN l n ws rm D y (.ref b :: As) w H.size rv w1 mc ms) (cw : CallW R s args own C index n bytes maxL ret ws rm mc ms k) (hN : zN0 s) (hK : va_K D vwCl (tyL y) s) (hP : va_P D vwCl w H) (hD : va_D (fun _ => True) w) {ci q0 : Nat} {qc : vw_C} {fs : List Value} (hc : vwCl[ci]? = some qc) (hcC : qc.1 = C) (he : w[q0]? = some (b, .inr (ci, fs))) (hn : As.length = k) (hsz : ls.size = nL) (hst : st0 = As.reverse ++ .ref b :: rest) (hW : 2 * (F0 m pc ls (As.reverse ++ .ref b :: rest)).monitorRoom + (rest.map fun v => v.category).sum ≤ 8) (hdg : decode cc pc = .ok (.invokevirtual index, 3)) (hS : va_S A0 H0 H locs) (hF : ∀ q : Nat, va_A w H.size q → A0 q) (hf : cells + mc ≤ R.cells ∧ slots + ms ≤ R.slots) (hst1 : rv.toList ++ rest = st1) (hc1 : cells + mc = cells1) (hs1 : slots + ms = slots1)
    (kk : ∀ (H1 : Heap) (locs1 : List Loc), va_P D vwCl w1 H1 → H.size ≤ H1.size → (∀ q : Nat, q < H.size → ¬ va_A w H.size q → H1[q]? = H[q]?) → va_S A0 H0 H1 locs1 → W p l e R s m args below meth c H1 locs1 cells1 slots1 Q (F0 m (pc + 3) ls st1)) : W p l e R s m args below meth c H locs cells slots Q (F0 m pc ls st0) := by
  subst hst
  exact zRun_M (va_runV (As := As) (rest := rest) (g := F0 m pc ls (As.reverse ++ .ref b :: rest)) (locs := locs) S hM cw ⟨zMPN_blind, by subst hcC; exact va_recv hK hP hc he, fun U hU hW => ⟨rfl, ⟨by rw [hU], by rw [hU]; exact hP, va_K.moved hW.alike hK, hD⟩, hN.moved hW⟩⟩ rfl hn hsz rfl hW hdg ⟨hf.1, hf.2⟩) hst1 hc1 hs1 hS hF hF kk
theorem zcNMS (S : CallFix p m c cc nL s args Ts own) (hM : zMN l n ws rm D y As w H.size rv w1 mc ms) (cw : CallB R s args own index n bytes maxL ret ws rm mc ms k ∧ (Cond.static n).before args s = true) (hN : zN0 s) (hK : va_K D vwCl (tyL y) s) (hP : va_P D vwCl w H) (hD : va_D (fun _ => True) w) (hn : As.length = k) (hsz : ls.size = nL) (hst : st0 = As.reverse ++ rest) (hW : 2 * (F0 m pc ls (As.reverse ++ rest)).monitorRoom + (rest.map fun v => v.category).sum ≤ 8) (hdg : decode cc pc = .ok (.invokestatic index, 3)) (hS : va_S A0 H0 H locs) (hF : ∀ q : Nat, va_A w H.size q → A0 q) (hf : cells + mc ≤ R.cells ∧ slots + ms ≤ R.slots) (hst1 : rv.toList ++ rest = st1) (hc1 : cells + mc = cells1) (hs1 : slots + ms = slots1)
    (kk : ∀ (H1 : Heap) (locs1 : List Loc), va_P D vwCl w1 H1 → H.size ≤ H1.size → (∀ q : Nat, q < H.size → ¬ va_A w H.size q → H1[q]? = H[q]?) → va_S A0 H0 H1 locs1 → W p l e R s m args below meth c H1 locs1 cells1 slots1 Q (F0 m (pc + 3) ls st1)) : W p l e R s m args below meth c H locs cells slots Q (F0 m pc ls st0) := by
  subst hst
  exact zRun_M (va_runS (As := As) (rest := rest) (g := F0 m pc ls (As.reverse ++ rest)) (locs := locs) S hM cw ⟨zMPN_blind, fun U hU hW => ⟨rfl, ⟨by rw [hU], by rw [hU]; exact hP, va_K.moved hW.alike hK, hD⟩, hN.moved hW⟩⟩ rfl hn hsz rfl hW hdg ⟨hf.1, hf.2⟩) hst1 hc1 hs1 hS hF hF kk
theorem zcNMI (S : CallFix p m c cc nL s args Ts own) (hM : zMN l n ws rm D y (.ref b :: As) w H.size rv w1 mc ms) (cw : CallB R s args own index n bytes maxL none ws rm mc ms k ∧ n.name = "<init>" ∧ (Cond.instanceMethod n).before args s = true) (hN : zN0 s) (hK : va_K D vwCl (tyL y) s) (hP : va_P D vwCl w H) (hD : va_D (fun _ => True) w) (hn : As.length = k) (hsz : ls.size = nL) (hst : st0 = As.reverse ++ .ref b :: rest) (hW : 2 * (F0 m pc ls (As.reverse ++ .ref b :: rest)).monitorRoom + (rest.map fun v => v.category).sum ≤ 8) (hdg : decode cc pc = .ok (.invokespecial index, 3)) (hS : va_S A0 H0 H locs) (hF : ∀ q : Nat, va_A w H.size q → A0 q) (hf : cells + mc ≤ R.cells ∧ slots + ms ≤ R.slots) (hst1 : rv.toList ++ rest = st1) (hc1 : cells + mc = cells1) (hs1 : slots + ms = slots1)
    (kk : ∀ (H1 : Heap) (locs1 : List Loc), va_P D vwCl w1 H1 → H.size ≤ H1.size → (∀ q : Nat, q < H.size → ¬ va_A w H.size q → H1[q]? = H[q]?) → va_S A0 H0 H1 locs1 → W p l e R s m args below meth c H1 locs1 cells1 slots1 Q (F0 m (pc + 3) ls st1)) : W p l e R s m args below meth c H locs cells slots Q (F0 m pc ls st0) := by
  subst hst
  exact zRun_M (va_runI (As := As) (rest := rest) (g := F0 m pc ls (As.reverse ++ .ref b :: rest)) (locs := locs) S hM cw ⟨zMPN_blind, fun U hU hW => ⟨rfl, ⟨by rw [hU], by rw [hU]; exact hP, va_K.moved hW.alike hK, hD⟩, hN.moved hW⟩⟩ rfl hn hsz rfl hW hdg ⟨hf.1, hf.2⟩) hst1 hc1 hs1 hS hF hF kk
end ZCALLSN
