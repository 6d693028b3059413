section
-- ===== PART A: goes FIRST, ahead of the names: the tables' words, and 'selects' of the private methods out of them =====
/-- a private method of a class that the tables say can be made, by its rows of tables_1 -/
def lw_okq (q : MethodName × Nat) : Prop := (q.1.cls ≠ "java/lang/invoke/MethodHandle" ∧ q.1.cls ≠ "java/lang/invoke/VarHandle") ∧ Cond.instantiable q.1.cls q.2 ∈ tables_1 ∧ Cond.privateMethod q.1 ∈ tables_1 ∧ Cond.instanceMethod q.1 ∈ tables_1
theorem lw_p0 : lw_okq (⟨"StakeWeirs$Estuary", "run", "()I"⟩, 10) := ⟨⟨by decide +kernel, by decide +kernel⟩, List.mem_of_getElem? (i := 24) (by decide +kernel), List.mem_of_getElem? (i := 183) (by decide +kernel), List.mem_of_getElem? (i := 184) (by decide +kernel)⟩
theorem lw_p1 : lw_okq (⟨"StakeWeirs$Estuary", "allEels", "()I"⟩, 10) := ⟨⟨by decide +kernel, by decide +kernel⟩, List.mem_of_getElem? (i := 24) (by decide +kernel), List.mem_of_getElem? (i := 192) (by decide +kernel), List.mem_of_getElem? (i := 193) (by decide +kernel)⟩
theorem lw_p2 : lw_okq (⟨"StakeWeirs", "digestOfWeirs", "(J)J"⟩, 2) := ⟨⟨by decide +kernel, by decide +kernel⟩, List.mem_of_getElem? (i := 16) (by decide +kernel), List.mem_of_getElem? (i := 197) (by decide +kernel), List.mem_of_getElem? (i := 198) (by decide +kernel)⟩
theorem lw_p3 : lw_okq (⟨"StakeWeirs", "digestOfBarges", "(J)J"⟩, 2) := ⟨⟨by decide +kernel, by decide +kernel⟩, List.mem_of_getElem? (i := 16) (by decide +kernel), List.mem_of_getElem? (i := 206) (by decide +kernel), List.mem_of_getElem? (i := 207) (by decide +kernel)⟩
theorem lw_p4 : lw_okq (⟨"StakeWeirs$Estuary", "nextInWay", "(LStakeWeirs$Barge;)I"⟩, 10) := ⟨⟨by decide +kernel, by decide +kernel⟩, List.mem_of_getElem? (i := 24) (by decide +kernel), List.mem_of_getElem? (i := 218) (by decide +kernel), List.mem_of_getElem? (i := 219) (by decide +kernel)⟩
theorem lw_p5 : lw_okq (⟨"java/lang/Throwable", "fillInStackTrace", "(I)Ljava/lang/Throwable;"⟩, 6) := ⟨⟨by decide +kernel, by decide +kernel⟩, List.mem_of_getElem? (i := 280) (by decide +kernel), List.mem_of_getElem? (i := 278) (by decide +kernel), List.mem_of_getElem? (i := 279) (by decide +kernel)⟩
theorem lw_p6 : lw_okq (⟨"StakeWeirs$Estuary", "putInOrder", "(II)V"⟩, 10) := ⟨⟨by decide +kernel, by decide +kernel⟩, List.mem_of_getElem? (i := 24) (by decide +kernel), List.mem_of_getElem? (i := 330) (by decide +kernel), List.mem_of_getElem? (i := 331) (by decide +kernel)⟩
theorem lw_p7 : lw_okq (⟨"StakeWeirs$Estuary", "isSeawardsOf", "(II)Z"⟩, 10) := ⟨⟨by decide +kernel, by decide +kernel⟩, List.mem_of_getElem? (i := 24) (by decide +kernel), List.mem_of_getElem? (i := 334) (by decide +kernel), List.mem_of_getElem? (i := 335) (by decide +kernel)⟩
theorem lw_p8 : lw_okq (⟨"StakeWeirs$Estuary", "inOrder", "(I)I"⟩, 10) := ⟨⟨by decide +kernel, by decide +kernel⟩, List.mem_of_getElem? (i := 24) (by decide +kernel), List.mem_of_getElem? (i := 480) (by decide +kernel), List.mem_of_getElem? (i := 481) (by decide +kernel)⟩
theorem lw_p9 : lw_okq (⟨"StakeWeirs$Estuary", "moveBarges", "()V"⟩, 10) := ⟨⟨by decide +kernel, by decide +kernel⟩, List.mem_of_getElem? (i := 24) (by decide +kernel), List.mem_of_getElem? (i := 492) (by decide +kernel), List.mem_of_getElem? (i := 493) (by decide +kernel)⟩
theorem lw_p10 : lw_okq (⟨"StakeWeirs$Estuary", "breakThrough", "(LStakeWeirs$Barge;)V"⟩, 10) := ⟨⟨by decide +kernel, by decide +kernel⟩, List.mem_of_getElem? (i := 24) (by decide +kernel), List.mem_of_getElem? (i := 501) (by decide +kernel), List.mem_of_getElem? (i := 502) (by decide +kernel)⟩
theorem lw_p11 : lw_okq (⟨"StakeWeirs$Estuary", "leaveOutArrived", "()V"⟩, 10) := ⟨⟨by decide +kernel, by decide +kernel⟩, List.mem_of_getElem? (i := 24) (by decide +kernel), List.mem_of_getElem? (i := 513) (by decide +kernel), List.mem_of_getElem? (i := 514) (by decide +kernel)⟩
theorem lw_p12 : lw_okq (⟨"StakeWeirs$Estuary", "rotWattle", "()V"⟩, 10) := ⟨⟨by decide +kernel, by decide +kernel⟩, List.mem_of_getElem? (i := 24) (by decide +kernel), List.mem_of_getElem? (i := 524) (by decide +kernel), List.mem_of_getElem? (i := 525) (by decide +kernel)⟩
theorem lw_p13 : lw_okq (⟨"StakeWeirs$Estuary", "collectRents", "()V"⟩, 10) := ⟨⟨by decide +kernel, by decide +kernel⟩, List.mem_of_getElem? (i := 24) (by decide +kernel), List.mem_of_getElem? (i := 529) (by decide +kernel), List.mem_of_getElem? (i := 530) (by decide +kernel)⟩
theorem lw_p14 : lw_okq (⟨"StakeWeirs", "eelsWithStakes", "(III)I"⟩, 2) := ⟨⟨by decide +kernel, by decide +kernel⟩, List.mem_of_getElem? (i := 16) (by decide +kernel), List.mem_of_getElem? (i := 593) (by decide +kernel), List.mem_of_getElem? (i := 594) (by decide +kernel)⟩
theorem lw_p15 : lw_okq (⟨"StakeWeirsModel", "no", "(I)I"⟩, 7) := ⟨⟨by decide +kernel, by decide +kernel⟩, List.mem_of_getElem? (i := 597) (by decide +kernel), List.mem_of_getElem? (i := 707) (by decide +kernel), List.mem_of_getElem? (i := 708) (by decide +kernel)⟩
def lw_privs_1 : List (MethodName × Nat) := [(⟨"StakeWeirs$Estuary", "run", "()I"⟩, 10), (⟨"StakeWeirs$Estuary", "allEels", "()I"⟩, 10), (⟨"StakeWeirs", "digestOfWeirs", "(J)J"⟩, 2), (⟨"StakeWeirs", "digestOfBarges", "(J)J"⟩, 2), (⟨"StakeWeirs$Estuary", "nextInWay", "(LStakeWeirs$Barge;)I"⟩, 10), (⟨"java/lang/Throwable", "fillInStackTrace", "(I)Ljava/lang/Throwable;"⟩, 6), (⟨"StakeWeirs$Estuary", "putInOrder", "(II)V"⟩, 10), (⟨"StakeWeirs$Estuary", "isSeawardsOf", "(II)Z"⟩, 10), (⟨"StakeWeirs$Estuary", "inOrder", "(I)I"⟩, 10), (⟨"StakeWeirs$Estuary", "moveBarges", "()V"⟩, 10), (⟨"StakeWeirs$Estuary", "breakThrough", "(LStakeWeirs$Barge;)V"⟩, 10), (⟨"StakeWeirs$Estuary", "leaveOutArrived", "()V"⟩, 10), (⟨"StakeWeirs$Estuary", "rotWattle", "()V"⟩, 10), (⟨"StakeWeirs$Estuary", "collectRents", "()V"⟩, 10), (⟨"StakeWeirs", "eelsWithStakes", "(III)I"⟩, 2), (⟨"StakeWeirsModel", "no", "(I)I"⟩, 7)]
theorem lw_r1 : ∀ q ∈ lw_privs_1, lw_okq q := List.forall_mem_cons.mpr ⟨lw_p0, List.forall_mem_cons.mpr ⟨lw_p1, List.forall_mem_cons.mpr ⟨lw_p2, List.forall_mem_cons.mpr ⟨lw_p3, List.forall_mem_cons.mpr ⟨lw_p4, List.forall_mem_cons.mpr ⟨lw_p5, List.forall_mem_cons.mpr ⟨lw_p6, List.forall_mem_cons.mpr ⟨lw_p7, List.forall_mem_cons.mpr ⟨lw_p8, List.forall_mem_cons.mpr ⟨lw_p9, List.forall_mem_cons.mpr ⟨lw_p10, List.forall_mem_cons.mpr ⟨lw_p11, List.forall_mem_cons.mpr ⟨lw_p12, List.forall_mem_cons.mpr ⟨lw_p13, List.forall_mem_cons.mpr ⟨lw_p14, List.forall_mem_cons.mpr ⟨lw_p15, fun _ h => absurd h List.not_mem_nil⟩⟩⟩⟩⟩⟩⟩⟩⟩⟩⟩⟩⟩⟩⟩⟩
theorem lw_p16 : lw_okq (⟨"StakeWeirsModel", "isWeir", "(I)Z"⟩, 7) := ⟨⟨by decide +kernel, by decide +kernel⟩, List.mem_of_getElem? (i := 597) (by decide +kernel), List.mem_of_getElem? (i := 715) (by decide +kernel), List.mem_of_getElem? (i := 716) (by decide +kernel)⟩
theorem lw_p17 : lw_okq (⟨"StakeWeirsModel", "weirTold", "(II)I"⟩, 7) := ⟨⟨by decide +kernel, by decide +kernel⟩, List.mem_of_getElem? (i := 597) (by decide +kernel), List.mem_of_getElem? (i := 751) (by decide +kernel), List.mem_of_getElem? (i := 752) (by decide +kernel)⟩
theorem lw_p18 : lw_okq (⟨"StakeWeirsModel", "isBarge", "(I)Z"⟩, 7) := ⟨⟨by decide +kernel, by decide +kernel⟩, List.mem_of_getElem? (i := 597) (by decide +kernel), List.mem_of_getElem? (i := 759) (by decide +kernel), List.mem_of_getElem? (i := 760) (by decide +kernel)⟩
theorem lw_p19 : lw_okq (⟨"StakeWeirsModel", "bargeTold", "(II)I"⟩, 7) := ⟨⟨by decide +kernel, by decide +kernel⟩, List.mem_of_getElem? (i := 597) (by decide +kernel), List.mem_of_getElem? (i := 763) (by decide +kernel), List.mem_of_getElem? (i := 764) (by decide +kernel)⟩
theorem lw_p20 : lw_okq (⟨"StakeWeirsModel", "nextFor", "(I)I"⟩, 7) := ⟨⟨by decide +kernel, by decide +kernel⟩, List.mem_of_getElem? (i := 597) (by decide +kernel), List.mem_of_getElem? (i := 767) (by decide +kernel), List.mem_of_getElem? (i := 768) (by decide +kernel)⟩
theorem lw_p21 : lw_okq (⟨"StakeWeirsModel$State", "goUp", "(I)V"⟩, 16) := ⟨⟨by decide +kernel, by decide +kernel⟩, List.mem_of_getElem? (i := 603) (by decide +kernel), List.mem_of_getElem? (i := 822) (by decide +kernel), List.mem_of_getElem? (i := 823) (by decide +kernel)⟩
theorem lw_p22 : lw_okq (⟨"StakeWeirsModel$State", "breaks", "(I)Z"⟩, 16) := ⟨⟨by decide +kernel, by decide +kernel⟩, List.mem_of_getElem? (i := 603) (by decide +kernel), List.mem_of_getElem? (i := 826) (by decide +kernel), List.mem_of_getElem? (i := 827) (by decide +kernel)⟩
theorem lw_p23 : lw_okq (⟨"StakeWeirsModel$State", "leave", "()V"⟩, 16) := ⟨⟨by decide +kernel, by decide +kernel⟩, List.mem_of_getElem? (i := 603) (by decide +kernel), List.mem_of_getElem? (i := 834) (by decide +kernel), List.mem_of_getElem? (i := 835) (by decide +kernel)⟩
theorem lw_p24 : lw_okq (⟨"StakeWeirsModel$State", "payRent", "(I)V"⟩, 16) := ⟨⟨by decide +kernel, by decide +kernel⟩, List.mem_of_getElem? (i := 603) (by decide +kernel), List.mem_of_getElem? (i := 838) (by decide +kernel), List.mem_of_getElem? (i := 839) (by decide +kernel)⟩
theorem lw_p25 : lw_okq (⟨"StakeWeirsModel$State", "copy", "([I[I)V"⟩, 16) := ⟨⟨by decide +kernel, by decide +kernel⟩, List.mem_of_getElem? (i := 603) (by decide +kernel), List.mem_of_getElem? (i := 850) (by decide +kernel), List.mem_of_getElem? (i := 851) (by decide +kernel)⟩
theorem lw_p26 : lw_okq (⟨"StakeWeirsModel", "isUnderWay", "(I)Z"⟩, 7) := ⟨⟨by decide +kernel, by decide +kernel⟩, List.mem_of_getElem? (i := 597) (by decide +kernel), List.mem_of_getElem? (i := 862) (by decide +kernel), List.mem_of_getElem? (i := 863) (by decide +kernel)⟩
def lw_privs_2 : List (MethodName × Nat) := [(⟨"StakeWeirsModel", "isWeir", "(I)Z"⟩, 7), (⟨"StakeWeirsModel", "weirTold", "(II)I"⟩, 7), (⟨"StakeWeirsModel", "isBarge", "(I)Z"⟩, 7), (⟨"StakeWeirsModel", "bargeTold", "(II)I"⟩, 7), (⟨"StakeWeirsModel", "nextFor", "(I)I"⟩, 7), (⟨"StakeWeirsModel$State", "goUp", "(I)V"⟩, 16), (⟨"StakeWeirsModel$State", "breaks", "(I)Z"⟩, 16), (⟨"StakeWeirsModel$State", "leave", "()V"⟩, 16), (⟨"StakeWeirsModel$State", "payRent", "(I)V"⟩, 16), (⟨"StakeWeirsModel$State", "copy", "([I[I)V"⟩, 16), (⟨"StakeWeirsModel", "isUnderWay", "(I)Z"⟩, 7)]
theorem lw_r2 : ∀ q ∈ lw_privs_2, lw_okq q := List.forall_mem_cons.mpr ⟨lw_p16, List.forall_mem_cons.mpr ⟨lw_p17, List.forall_mem_cons.mpr ⟨lw_p18, List.forall_mem_cons.mpr ⟨lw_p19, List.forall_mem_cons.mpr ⟨lw_p20, List.forall_mem_cons.mpr ⟨lw_p21, List.forall_mem_cons.mpr ⟨lw_p22, List.forall_mem_cons.mpr ⟨lw_p23, List.forall_mem_cons.mpr ⟨lw_p24, List.forall_mem_cons.mpr ⟨lw_p25, List.forall_mem_cons.mpr ⟨lw_p26, fun _ h => absurd h List.not_mem_nil⟩⟩⟩⟩⟩⟩⟩⟩⟩⟩⟩
def lw_privs : List (MethodName × Nat) := lw_privs_1 ++ (lw_privs_2)
def lw_tbl : List Cond := k2_sels lw_privs ++ tables_1
theorem lw_privs_ok : ∀ q ∈ lw_privs, lw_okq q := by
  show ∀ q ∈ lw_privs_1 ++ (lw_privs_2), lw_okq q
  exact List.forall_mem_append.mpr ⟨lw_r1, lw_r2⟩
/-- the streams that the claim lets the run draw from -/
abbrev lw_cs : List Choice := [Jvm.Choice.named "NaN.bits"]
theorem lw_bits : nanBits ∈ lw_cs := by first | decide | exact List.mem_cons_self | simp [lw_cs, nanBits]
end
section
/-! ===== BEGIN words of one list among another's, by their places ===== -/
theorem goodIn_r {big : List Cond} (ws : List Cond) (ps : List Nat) (hp : ws = ps.filterMap (fun i => big[i]?)) (h : ws.all goodWord = true) : GoodIn big ws := by
  intro w hw
  have h1 := List.all_eq_true.mp h w hw
  rw [hp] at hw
  obtain ⟨i, -, hi⟩ := List.mem_filterMap.mp hw
  have hm : w ∈ big := by first | exact List.mem_of_getElem? hi | exact List.getElem?_mem hi
  exact ⟨hm, good_of_word h1⟩
theorem goodIn_app {big a b : List Cond} (ha : GoodIn big a) (hb : GoodIn big b) : GoodIn big (a ++ b) := fun w h => (List.mem_append.mp h).elim (ha w) (hb w)
theorem goodIn_ca {big a b : List Cond} {c : Cond} (ha : GoodIn big (c :: a)) (hb : GoodIn big b) : GoodIn big (c :: (a ++ b)) := fun w h => (List.mem_cons.mp h).elim (fun e => ha w (List.mem_cons.mpr (Or.inl e))) (fun h => (List.mem_append.mp h).elim (fun h => ha w (List.mem_cons.mpr (Or.inr h))) (hb w))
theorem goodIn_sub {big ws : List Cond} (hm : ∀ w ∈ ws, w ∈ big) (h : ws.all goodWord = true) : GoodIn big ws := fun w hw => ⟨hm w hw, good_of_word (List.all_eq_true.mp h w hw)⟩
/-! ===== END ===== -/

/-! ===== BEGIN exceptions that leave a method, and their catching by the caller (launches without stack traces) ===== -/
section VXA
/-! The laws vx_back, vx_callV, vx_callS, vx_callSW, vx_throw0, vx_throwS follow proofs of the library, with one case more: JvmDerived/Free/Laws.lean (Back.of_free), Shelf42/LK1.lean (callV, callS), Shelf/KitTraced.lean (throwNew0V, throwNewS). -/
/-- where a method has thrown q: the class by its name, the cell, what was written, the world -/
def vx_T (XC : String → State → State → Prop) (st : State) (q : Addr) (t : State) (mc ms : Nat) (free : Addr → Prop) : Prop :=
  ∃ (E : String) (ce : Cell) (L : List Loc), XC E st t ∧ t.heap[q]? = some ce ∧ ce.vm = .none ∧ st.vm.findClass E = some ce.cls ∧ st.WarmedH t.vm ∧ st.sameButNew ({ t with vm := st.vm } : State) L mc ms ∧ ∀ z ∈ L, free z.base
def vx_Q (Qc : Array Value → State → Outcome → State → Prop) (XC : String → State → State → Prop) (mc ms : Nat) (free : Addr → Prop) : Array Value → State → Outcome → State → Prop := fun a st o t =>
  (Qc a st o t ∧ ∃ L, FrameEnd st o t L mc ms ∧ ∀ q ∈ L, free q.base) ∨ ∃ q, o = .threw q ∧ vx_T XC st q t mc ms free
/-- a callee that returns or throws -/
def vx_Met (l : Launch) (y : MethodName) (ws : List Cond) (rm : Room) (Pc : Array Value → State → Prop) (Qc : Array Value → State → Outcome → State → Prop) (XC : String → State → State → Prop) (mc ms : Nat) (free : Addr → Prop) : Prop :=
  MetFree l y (headSpec ws rm) Pc (fun _ _ _ _ _ => True) (vx_Q Qc XC mc ms free)
def vx_Post (XC : String → State → State → Prop) (mc ms : Nat) (free : Addr → Prop) : Pt → Array Value → Addr → Pt → Prop := fun A a q B =>
  ∃ (g : JFrame) (mk : MethodId) (t : State) (L : List Loc) (E : String) (ce : Cell), B.U.heap = t.heap ∧ B.U.vm = t.vm ∧ XC E (A.U.calling g mk a) t ∧ t.heap[q]? = some ce ∧ ce.vm = .none ∧ A.U.vm.findClass E = some ce.cls ∧ B.locs = A.locs ++ L ∧ (∀ z ∈ L, free z.base) ∧ B.cells = A.cells + mc ∧ B.slots = A.slots + ms
def vx_Back (l : Launch) (R : Room) (p : Program) (e : Env) (below : List Frame) (s : State) (sargs : Array Value) (y : MethodName) (len W9 : Nat)
    (Pre : Pt → Array Value → Prop) (Post : Pt → Array Value → Option Value → Pt → Prop) (PostX : Pt → Array Value → Addr → Pt → Prop) : Prop :=
  ∀ (m : MethodId) (meth : Method) (c : Code) (A : Pt) (g : JFrame) (ig : Instr) (mk : MethodId) (a : Array Value),
    Stand p l e R s m sargs below meth c A.U A.locs A.cells A.slots → g.method = m → g.locals.size = c.maxLocals → decode c.code g.pc = .ok (ig, len) →
    2 * g.monitorRoom + (g.stack.map fun v => v.category).sum ≤ W9 → A.U.methodNamed? y = some mk → Pre A a →
    (∃ (v : Option Value) (B : Pt), Stand p l e R s m sargs below meth c B.U B.locs B.cells B.slots ∧ Post A a v B ∧
      Steps p.tables e below (doInvoke e (A.U.setTop g) [] mk a).1 (B.U.setTop { g with pc := g.pc + len, stack := v.toList ++ g.stack })) ∨
    (∃ (q : Addr) (B : Pt), Stand p l e R s m sargs below meth c B.U B.locs B.cells B.slots ∧ PostX A a q B ∧
      Steps p.tables e below (doInvoke e (A.U.setTop g) [] mk a).1 ((B.U.setTop g).pushFrame (.throwing q)))
section Payer
variable {l : Launch} {R : Room} {p : Program} {e : Env} {below : List Frame} {s : State} {sargs : Array Value} {y : MethodName} {len W9 : Nat}
theorem vx_back {ws : List Cond} {rm : Room} {Pc : Array Value → State → Prop} {Qc : Array Value → State → Outcome → State → Prop} {XC : String → State → State → Prop} {mc ms : Nat} {free : Addr → Prop} {bytes : ByteArray} {maxL : Nat} {ret : Option FieldType}
    (hM : vx_Met l y ws rm Pc Qc XC mc ms free) (hblind : FrameBlind Pc) (hrc : rm.cells = mc) (hrs : rm.slots = ms)
    (hframes : rm.frames + 1 ≤ R.frames) (hlocals : W9 + (maxL + 11) + rm.locals ≤ R.locals)
    (hws : ∀ w ∈ ws, ∀ a' U, s.WarmedH U.vm → w.before a' U = true) (hcode : Cond.code y bytes maxL ret ∈ ws) (hinit : ∀ a' U, s.WarmedH U.vm → (Cond.initialized y.cls).before a' U = true) :
    vx_Back l R p e below s sargs y len W9 (PreOf R mc ms Pc) (PostOf Qc mc ms free) (vx_Post XC mc ms free) := by
  intro m meth c A g ig mk a X hg hsize hdg hW hn hp
  have h1 : (headSpec ws rm).pre.before a A.U = true := atoms_intro fun w hw => hws w hw _ _ X.warmed
  have h2 : (Cond.code y bytes maxL ret).before a A.U = true := hws _ hcode _ _ X.warmed
  have h3 : (Cond.initialized y.cls).before a A.U = true := hinit _ _ X.warmed
  have h4 : A.cells + (headSpec ws rm).room.cells ≤ R.cells := by rw [show (headSpec ws rm).room.cells = mc from hrc]; exact hp.1
  have h5 : A.slots + (headSpec ws rm).room.slots ≤ R.slots := by rw [show (headSpec ws rm).room.slots = ms from hrs]; exact hp.2.1
  have hPc : Pc a (A.U.calling g mk a) := hblind _ _ _ _ hp.2.2
  obtain ⟨U, Ls, c0, s0⟩ := A
  dsimp only [Pt.U, Pt.locs, Pt.cells, Pt.slots] at h1 h2 h3 h4 h5 X hn hPc ⊢
  obtain ⟨methY, cY, hmY, hcY, -, hlY, -, -, -, -⟩ := Cond.code_spec hn h2
  obtain ⟨kY, hkY, -⟩ := className_of_methodNamed hn
  have hinitY : kY.init = .initialized := Cond.initialized_spec (findClass_of_methodNamed hn) hkY h3
  have h : At U g.method c below := by rw [hg]; exact X.here
  have hlocals9 : W9 + (maxL + 11) + (headSpec ws rm).room.locals ≤ R.locals := hlocals
  have happ : (headSpec ws rm).appliesLoose y e.platform (U.calling g mk a) = true :=
    Spec.appliesLoose_calling (g := g) h hdg hn hkY hinitY
      (X.room_calling (g := g) (R' := (headSpec ws rm).room) hsize hmY hcY hframes (by rw [hlY]; omega) h4 h5) h1
  obtain ⟨mid, hmid⟩ := h.above
  have hfr : (U.setTop g).frames = (.java g :: mid) ++ below := by rw [State.frames_setTop' g h.top, hmid]; rfl
  obtain ⟨o, s₂, hsteps, -, hend, hq⟩ := Steps.callFree hM p X.admits X.cas X.clock (acts := []) hfr happ hPc trivial
  have hq' : vx_Q Qc XC mc ms free a (U.calling g mk a) o s₂ := hq
  rw [State.frames_setTop' g h.top] at hend
  obtain ⟨g₀, hg0⟩ := Option.isSome_iff_exists.mp h.top
  obtain ⟨r, hr⟩ := State.topJava?_eq_some.mp hg0
  have hr' : (({ U with heap := s₂.heap, slotsUsed := s₂.slotsUsed } : State).setVm s₂.vm).frames = .java g₀ :: r := hr
  rcases hq' with ⟨hqc, L, hfe, hL⟩ | ⟨q, rfl, E, ce, L, hx, hce, hcv, hcl, hW₂, hsm, hL⟩
  · obtain ⟨⟨v, rfl⟩, hW₂, e2, q2, q3, q4, q5, q6⟩ := id hfe
    have e3 : s₂ = ({ (U.calling g mk a).setFrames s₂.frames with heap := s₂.heap, slotsUsed := s₂.slotsUsed } : State).setVm s₂.vm := by
      have : s₂ = ({ s₂ with vm := (U.calling g mk a).vm } : State).setVm s₂.vm := rfl
      rw [e2] at this
      exact this
    obtain ⟨c₂, i₂, len₂, hc₂, hd₂, hf₂⟩ := hend
    have hW' : U.WarmedH s₂.vm := hW₂
    have hcc : c₂ = c := by
      have h1 : s₂.code? g.method = U.code? g.method := by
        rw [State.code?_eq, State.code?_eq, hW'.alike.method?]
      exact Option.some.inj (hc₂.symm.trans (h1.trans h.code))
    subst hcc
    have hlen : len₂ = len := by rw [hdg] at hd₂; cases hd₂; rfl
    subst hlen
    have hs₂ : s₂ = (({ U with heap := s₂.heap, slotsUsed := s₂.slotsUsed } : State).setVm s₂.vm).setTop { g with pc := g.pc + len₂, stack := v.toList ++ g.stack } := by
      refine e3.trans ?_
      rw [hf₂, State.calling_eq h.top, State.setFrames_setFrames, State.setTop_of_frames _ hr', hr]
      rfl
    have hsame : U.sameButNew ({ U with heap := s₂.heap, slotsUsed := s₂.slotsUsed } : State) L mc ms := by
      refine ⟨?_, q2, q3, q4, q5, q6⟩
      obtain ⟨t, ht, -⟩ := State.frames_cons hr
      show ({ U with heap := s₂.heap, slotsUsed := s₂.slotsUsed } : State) = { U.setFrames U.frames with heap := s₂.heap, slotsUsed := s₂.slotsUsed }
      rw [State.setFrames_self ht]
    subst hg
    refine Or.inl ⟨v, ⟨(({ U with heap := s₂.heap, slotsUsed := s₂.slotsUsed } : State).setVm s₂.vm), Ls ++ L, c0 + mc, s0 + ms⟩,
      ⟨X.admits, X.cas, X.clock, X.frames, X.room, X.hears, X.method, X.code, (X.here.setHeapUsed s₂.heap s₂.slotsUsed).setVm hW'.alike, X.tail, State.WarmedH.trans X.warmed hW', X.limits, X.bytes, X.same.trans (hsame.setVm s.vm)⟩,
      ⟨g, mk, s₂, L, rfl, rfl, hqc, rfl, hL, rfl, rfl⟩, ?_⟩
    show Steps p.tables e below _ ((({ U with heap := s₂.heap, slotsUsed := s₂.slotsUsed } : State).setVm s₂.vm).setTop { g with pc := g.pc + len₂, stack := v.toList ++ g.stack })
    rw [← hs₂]
    exact hsteps
  · obtain ⟨e2, q2, q3, q4, q5, q6⟩ := id hsm
    have e3 : s₂ = ({ (U.calling g mk a).setFrames s₂.frames with heap := s₂.heap, slotsUsed := s₂.slotsUsed } : State).setVm s₂.vm := by
      have : s₂ = ({ s₂ with vm := (U.calling g mk a).vm } : State).setVm s₂.vm := rfl
      rw [e2] at this
      exact this
    have hf₂ : s₂.frames = .throwing q :: .java g :: U.frames.tail := hend
    have hW' : U.WarmedH s₂.vm := hW₂
    have hs₂ : s₂ = ((({ U with heap := s₂.heap, slotsUsed := s₂.slotsUsed } : State).setVm s₂.vm).setTop g).pushFrame (.throwing q) := by
      refine e3.trans ?_
      rw [hf₂, State.calling_eq h.top, State.setFrames_setFrames, State.pushFrame, State.frames_setTop _ hr', State.setTop_of_frames _ hr', State.setFrames_setFrames, hr]
      rfl
    have hsame : U.sameButNew ({ U with heap := s₂.heap, slotsUsed := s₂.slotsUsed } : State) L mc ms := by
      refine ⟨?_, q2, q3, q4, q5, q6⟩
      obtain ⟨t, ht, -⟩ := State.frames_cons hr
      show ({ U with heap := s₂.heap, slotsUsed := s₂.slotsUsed } : State) = { U.setFrames U.frames with heap := s₂.heap, slotsUsed := s₂.slotsUsed }
      rw [State.setFrames_self ht]
    subst hg
    refine Or.inr ⟨q, ⟨(({ U with heap := s₂.heap, slotsUsed := s₂.slotsUsed } : State).setVm s₂.vm), Ls ++ L, c0 + mc, s0 + ms⟩,
      ⟨X.admits, X.cas, X.clock, X.frames, X.room, X.hears, X.method, X.code, (X.here.setHeapUsed s₂.heap s₂.slotsUsed).setVm hW'.alike, X.tail, State.WarmedH.trans X.warmed hW', X.limits, X.bytes, X.same.trans (hsame.setVm s.vm)⟩,
      ⟨g, mk, s₂, L, E, ce, rfl, rfl, hx, hce, hcv, hcl, rfl, hL, rfl, rfl⟩, ?_⟩
    show Steps p.tables e below _ (((({ U with heap := s₂.heap, slotsUsed := s₂.slotsUsed } : State).setVm s₂.vm).setTop g).pushFrame (.throwing q))
    rw [← hs₂]
    exact hsteps
end Payer
section Calls
variable {p : Program} {l : Launch} {e : Env} {R : Room} {s : State} {m : MethodId} {args : Array Value} {below : List Frame} {meth : Method} {c : Code} {T : State} {locs : List Loc} {cells slots : Nat}
theorem vx_callV (X : Stand p l e R s m args below meth c T locs cells slots) (hexec : p.tables.exec = Jvm.exec) {own C : String} {index : Nat} {y : MethodName} {bytes : ByteArray} {maxL : Nat} {ret : Option FieldType}
    (hown : s.vm.findClass own = some m.cls) (hlink : (Cond.methodLink own index y).before args s = true) (hinst : (Cond.instanceMethod y).before args s = true) (hsel : (Cond.selects C y y).before args s = true)
    (hcode : (Cond.code y bytes maxL ret).before args s = true) (hy : y.cls ≠ "java/lang/invoke/MethodHandle" ∧ y.cls ≠ "java/lang/invoke/VarHandle")
    {W9 : Nat} {Pre : Pt → Array Value → Prop} {Post : Pt → Array Value → Option Value → Pt → Prop} {PostX : Pt → Array Value → Addr → Pt → Prop} (hK : vx_Back l R p e below s args y 3 W9 Pre Post PostX)
    {b : Addr} {cellB : Cell} (hcell : T.heap[b]? = some cellB) (hobj : cellB.vm.isStatics = false) (hcls : s.vm.findClass C = some cellB.cls)
    {g : JFrame} (hg : g.method = m) (hsize : g.locals.size = c.maxLocals) {argsL rest : List Value} (hlen : ∀ sig, parseMethodDescriptor y.desc = some sig → argsL.length = sig.parameters.length)
    (hstack : g.stack = argsL.reverse ++ .ref b :: rest) (hW : 2 * g.monitorRoom + (rest.map fun v => v.category).sum ≤ W9) (hdg : decode c.code g.pc = .ok (.invokevirtual index, 3))
    (hpre : ∀ vm₁, s.WarmedH vm₁ → Pre ⟨T.setVm vm₁, locs, cells, slots⟩ (Value.ref b :: argsL).toArray) :
    (∃ (v : Option Value) (vm₁ : Vm) (B : Pt), s.WarmedH vm₁ ∧ Stand p l e R s m args below meth c B.U B.locs B.cells B.slots ∧ Post ⟨T.setVm vm₁, locs, cells, slots⟩ (Value.ref b :: argsL).toArray v B ∧
      ∀ target, Steps p.tables e below (B.U.setTop { g with pc := g.pc + 3, stack := v.toList ++ rest }) target → Steps p.tables e below (T.setTop g) target) ∨
    (∃ (q : Addr) (vm₁ : Vm) (B : Pt), s.WarmedH vm₁ ∧ Stand p l e R s m args below meth c B.U B.locs B.cells B.slots ∧ PostX ⟨T.setVm vm₁, locs, cells, slots⟩ (Value.ref b :: argsL).toArray q B ∧
      Steps p.tables e below (T.setTop g) ((B.U.setTop { g with stack := rest }).pushFrame (.throwing q))) := by
  obtain ⟨mk, methM, hnamed, hmethM, hstM, habM⟩ := Cond.instanceMethod_spec hinst
  obtain ⟨methM', cM, hmethM', -, -, -, -, -, -, hsigM⟩ := Cond.code_spec hnamed hcode
  cases hmethM.symm.trans hmethM'
  obtain ⟨c2, r2, m2, q1, q2, q3, q4, kP, hkP, hkPi⟩ := Cond.selects_spec hsel
  cases hcls.symm.trans q1
  cases (State.methodFound?_of_named hnamed hy).symm.trans q2
  cases hnamed.symm.trans q3
  have hselP : selectMethod e.platform s.vm cellB.cls mk = .method mk := by rw [Launch.admits_selectMethod X.admits]; exact q4
  obtain ⟨vm₁, X₁, hstep₁⟩ := X.invokevirtual hexec hown hlink hnamed hmethM hstM hkP hkPi hy (a := b) (cell := cellB) hcell
    (fun z h => by rw [h] at hobj; cases hobj) hselP hmethM habM hkP hkPi (g := g) hg (argsL := argsL) (rest := rest) (hlen _ hsigM) hstack hdg
  rcases hK m meth c ⟨T.setVm vm₁, locs, cells, slots⟩ { g with stack := rest } (.invokevirtual index) mk (Value.ref b :: argsL).toArray X₁ hg hsize hdg hW (X₁.named hnamed) (hpre vm₁ X₁.warmed) with ⟨v, B, X', hpost, hsteps⟩ | ⟨q, B, X', hpost, hsteps⟩
  · exact Or.inl ⟨v, vm₁, B, X₁.warmed, X', hpost, fun target h => hstep₁ _ fun acts => by rw [doInvoke_state]; exact hsteps.trans h⟩
  · exact Or.inr ⟨q, vm₁, B, X₁.warmed, X', hpost, hstep₁ _ fun acts => by rw [doInvoke_state]; exact hsteps⟩
theorem vx_callS (X : Stand p l e R s m args below meth c T locs cells slots) (hexec : p.tables.exec = Jvm.exec) {own : String} {index : Nat} {y : MethodName} {bytes : ByteArray} {maxL : Nat} {ret : Option FieldType}
    (hown : s.vm.findClass own = some m.cls) (hlink : (Cond.methodLink own index y).before args s = true) (hstat : (Cond.static y).before args s = true) (hinit : (Cond.initialized y.cls).before args s = true)
    (hcode : (Cond.code y bytes maxL ret).before args s = true) (hy : y.cls ≠ "java/lang/invoke/MethodHandle" ∧ y.cls ≠ "java/lang/invoke/VarHandle")
    {W9 : Nat} {Pre : Pt → Array Value → Prop} {Post : Pt → Array Value → Option Value → Pt → Prop} {PostX : Pt → Array Value → Addr → Pt → Prop} (hK : vx_Back l R p e below s args y 3 W9 Pre Post PostX)
    {g : JFrame} (hg : g.method = m) (hsize : g.locals.size = c.maxLocals) {argsL rest : List Value} (hlen : ∀ sig, parseMethodDescriptor y.desc = some sig → argsL.length = sig.parameters.length)
    (hstack : g.stack = argsL.reverse ++ rest) (hW : 2 * g.monitorRoom + (rest.map fun v => v.category).sum ≤ W9) (hdg : decode c.code g.pc = .ok (.invokestatic index, 3))
    (hpre : ∀ vm₁, s.WarmedH vm₁ → Pre ⟨T.setVm vm₁, locs, cells, slots⟩ argsL.toArray) :
    (∃ (v : Option Value) (vm₁ : Vm) (B : Pt), s.WarmedH vm₁ ∧ Stand p l e R s m args below meth c B.U B.locs B.cells B.slots ∧ Post ⟨T.setVm vm₁, locs, cells, slots⟩ argsL.toArray v B ∧
      ∀ target, Steps p.tables e below (B.U.setTop { g with pc := g.pc + 3, stack := v.toList ++ rest }) target → Steps p.tables e below (T.setTop g) target) ∨
    (∃ (q : Addr) (vm₁ : Vm) (B : Pt), s.WarmedH vm₁ ∧ Stand p l e R s m args below meth c B.U B.locs B.cells B.slots ∧ PostX ⟨T.setVm vm₁, locs, cells, slots⟩ argsL.toArray q B ∧
      Steps p.tables e below (T.setTop g) ((B.U.setTop { g with stack := rest }).pushFrame (.throwing q))) := by
  obtain ⟨mk, hnamed⟩ := Cond.code_named hcode
  obtain ⟨methM, cM, hmethM, -, -, -, -, -, -, hsigM⟩ := Cond.code_spec hnamed hcode
  have hstatic : methM.isStatic = true := Cond.static_spec hnamed hmethM hstat
  obtain ⟨kP, hkP, -⟩ := className_of_methodNamed hnamed
  have hinitP : kP.init = .initialized := Cond.initialized_spec (findClass_of_methodNamed hnamed) hkP hinit
  obtain ⟨vm₁, X₁, hstep₁⟩ := X.invokestatic hexec hown hlink hnamed hmethM hstatic hkP hinitP hy (g := g) hg (argsL := argsL) (rest := rest) (hlen _ hsigM) hstack hdg
  rcases hK m meth c ⟨T.setVm vm₁, locs, cells, slots⟩ { g with stack := rest } (.invokestatic index) mk argsL.toArray X₁ hg hsize hdg hW (X₁.named hnamed) (hpre vm₁ X₁.warmed) with ⟨v, B, X', hpost, hsteps⟩ | ⟨q, B, X', hpost, hsteps⟩
  · exact Or.inl ⟨v, vm₁, B, X₁.warmed, X', hpost, fun target h => hstep₁ _ fun acts => by rw [doInvoke_state]; exact hsteps.trans h⟩
  · exact Or.inr ⟨q, vm₁, B, X₁.warmed, X', hpost, hstep₁ _ fun acts => by rw [doInvoke_state]; exact hsteps⟩
end Calls
theorem vx_cls {s : State} {T : State} {vm₁ : Vm} {E : String} {k : ClassId} (hW : s.WarmedH vm₁) (h : (T.setVm vm₁).vm.findClass E = some k) : s.vm.findClass E = some k := by
  have h1 : vm₁.findClass E = some k := h
  rw [hW.alike.findClass] at h1
  exact h1
/-- the method's frame g, with q thrown over it -/
def vx_W (p : Program) (l : Launch) (e : Env) (R : Room) (s : State) (m : MethodId) (args : Array Value) (below : List Frame) (meth : Method) (c : Code) (H : Heap) (locs : List Loc) (cells slots : Nat) (Q : State → Prop) (g : JFrame) (q : Addr) : Prop :=
  ∀ T : State, T.heap = H → Stand p l e R s m args below meth c T locs cells slots → ∃ t, Steps p.tables e below ((T.setTop g).pushFrame (.throwing q)) t ∧ Q t
def vx_Run (p : Program) (l : Launch) (e : Env) (R : Room) (s : State) (m : MethodId) (args : Array Value) (below : List Frame) (meth : Method) (c : Code) (H : Heap) (locs : List Loc) (cells slots mc ms : Nat) (g : JFrame) (rest : List Value) (Qa : State → Outcome → State → Prop) (XC : String → State → State → Prop) (free : Addr → Prop) : Prop :=
  ∀ T : State, T.heap = H → Stand p l e R s m args below meth c T locs cells slots →
    (∃ (v : Option Value) (st₀ t T' : State) (L : List Loc), st₀.heap = H ∧ Stand p l e R s m args below meth c T' (locs ++ L) (cells + mc) (slots + ms) ∧ (∀ q ∈ L, free q.base) ∧ T'.heap = t.heap ∧ T'.vm = t.vm ∧ Qa st₀ (.returned v) t ∧
      Goes p e below T g T' { g with pc := g.pc + 3, stack := v.toList ++ rest }) ∨
    (∃ (q : Addr) (st₀ t T' : State) (L : List Loc) (E : String) (ce : Cell), st₀.heap = H ∧ Stand p l e R s m args below meth c T' (locs ++ L) (cells + mc) (slots + ms) ∧ (∀ z ∈ L, free z.base) ∧ T'.heap = t.heap ∧ T'.vm = t.vm ∧ XC E st₀ t ∧ t.heap[q]? = some ce ∧ ce.vm = .none ∧ s.vm.findClass E = some ce.cls ∧
      Steps p.tables e below (T.setTop g) ((T'.setTop { g with stack := rest }).pushFrame (.throwing q)))
def vx_X {S : Type} (px : S → Prop) (B : String → S → State → Prop) (A : Nat → Prop) : String → State → State → Prop := fun E st t => ∃ u : S, px u ∧ B E u t ∧ va_F A st t
section Runs
variable {p : Program} {l : Launch} {e : Env} {R : Room} {s : State} {m : MethodId} {args : Array Value} {below : List Frame} {meth : Method} {c : Code} {H : Heap} {locs : List Loc} {cells slots : Nat}
variable {y : MethodName} {bytes cc : ByteArray} {maxL nL mc ms n index : Nat} {ret : Option FieldType} {ws : List Cond} {rm : Room} {Pc : Array Value → State → Prop} {Qc : Array Value → State → Outcome → State → Prop} {XC : String → State → State → Prop} {free : Addr → Prop} {Ts : List Cond} {own C : String} {b : Addr} {As rest : List Value} {g : JFrame}
theorem vx_callBack (cb : CallB R s args own index y bytes maxL ret ws rm mc ms n) (hM : vx_Met l y ws rm Pc Qc XC mc ms free) (hbl : FrameBlind Pc) : vx_Back l R p e below s args y 3 8 (PreOf R mc ms Pc) (PostOf Qc mc ms free) (vx_Post XC mc ms free) := by
  obtain ⟨hrc, hrs, hfr, hlo, hws, hcw, -, hini, -⟩ := cb
  exact vx_back (bytes := bytes) (maxL := maxL) (ret := ret) hM hbl hrc hrs hfr hlo hws hcw (fun a' U hW => word_at hW (Or.inl (by first | rfl | simp [Cond.onTables, Cond.keeps, Cond.steady])) hini)
theorem vx_runV (S : CallFix p m c cc nL s args Ts own) (hM : vx_Met l y ws rm Pc Qc XC mc ms free) (cw : CallW R s args own C index y bytes maxL ret ws rm mc ms n) (hp : PreV s H C b Pc As)
    (hg : g.method = m) (hn : As.length = n) (hsize : g.locals.size = nL) (hstack : g.stack = As.reverse ++ .ref b :: rest) (hW : 2 * g.monitorRoom + (rest.map fun v => v.category).sum ≤ 8) (hdg : decode cc g.pc = .ok (.invokevirtual index, 3)) (hf : cells + mc ≤ R.cells ∧ slots + ms ≤ R.slots) :
    vx_Run p l e R s m args below meth c H locs cells slots mc ms g rest (Qc (Value.ref b :: As).toArray) XC free := by
  have hK : vx_Back l R p e below s args y 3 8 (PreOf R mc ms Pc) (PostOf Qc mc ms free) (vx_Post XC mc ms free) := vx_callBack cw.1 hM hp.1
  obtain ⟨⟨-, -, -, -, -, -, hcode, -, hy, hlen, hl⟩, hin, hse⟩ := cw
  obtain ⟨hx, hb, hml, ho, -⟩ := S
  obtain ⟨-, ⟨cellB, hcB, hoB, hclB⟩, hPc⟩ := hp
  intro T hT X
  rcases vx_callV X hx (C := C) (bytes := bytes) (maxL := maxL) (ret := ret) ho hl hin hse hcode hy hK (by rw [hT]; exact hcB) hoB hclB hg (hsize.trans hml.symm) (argsL := As) (rest := rest) (fun sig h => hn.trans (hlen sig h)) hstack hW (by rw [hb]; exact hdg)
    (fun vm₁ hW₁ => ⟨hf.1, hf.2, hPc (T.setVm vm₁) hT hW₁⟩) with ⟨v, vm₁, ⟨U', l2, c2, s2⟩, hW₁, X', ⟨g', mk, t, L, e1, e2, hq, h1, hL, h2, h3⟩, st⟩ | ⟨q, vm₁, ⟨U', l2, c2, s2⟩, hW₁, X', ⟨g', mk, t, L, E, ce, e1, e2, hq, hce, hcv, hcl, h1, hL, h2, h3⟩, st⟩
  · dsimp only [Pt.U, Pt.locs, Pt.cells, Pt.slots] at X' e1 e2 h1 h2 h3 st
    subst h1; subst h2; subst h3
    exact Or.inl ⟨v, (T.setVm vm₁).calling g' mk (Value.ref b :: As).toArray, t, U', L, hT, X', hL, e1, e2, hq, st⟩
  · dsimp only [Pt.U, Pt.locs, Pt.cells, Pt.slots] at X' e1 e2 h1 h2 h3 st hcl
    subst h1; subst h2; subst h3
    exact Or.inr ⟨q, (T.setVm vm₁).calling g' mk (Value.ref b :: As).toArray, t, U', L, E, ce, hT, X', hL, e1, e2, hq, hce, hcv, vx_cls hW₁ hcl, st⟩
theorem vx_runS (S : CallFix p m c cc nL s args Ts own) (hM : vx_Met l y ws rm Pc Qc XC mc ms free) (cw : CallB R s args own index y bytes maxL ret ws rm mc ms n ∧ (Cond.static y).before args s = true) (hp : PreS s H Pc As)
    (hg : g.method = m) (hn : As.length = n) (hsize : g.locals.size = nL) (hstack : g.stack = As.reverse ++ rest) (hW : 2 * g.monitorRoom + (rest.map fun v => v.category).sum ≤ 8) (hdg : decode cc g.pc = .ok (.invokestatic index, 3)) (hf : cells + mc ≤ R.cells ∧ slots + ms ≤ R.slots) :
    vx_Run p l e R s m args below meth c H locs cells slots mc ms g rest (Qc As.toArray) XC free := by
  have hK : vx_Back l R p e below s args y 3 8 (PreOf R mc ms Pc) (PostOf Qc mc ms free) (vx_Post XC mc ms free) := vx_callBack cw.1 hM hp.1
  obtain ⟨⟨-, -, -, -, -, -, hcode, hini, hy, hlen, hl⟩, hstt⟩ := cw
  obtain ⟨hx, hb, hml, ho, -⟩ := S
  intro T hT X
  rcases vx_callS X hx (bytes := bytes) (maxL := maxL) (ret := ret) ho hl hstt hini hcode hy hK hg (hsize.trans hml.symm) (argsL := As) (rest := rest) (fun sig h => hn.trans (hlen sig h)) hstack hW (by rw [hb]; exact hdg)
    (fun vm₁ hW₁ => ⟨hf.1, hf.2, hp.2 (T.setVm vm₁) hT hW₁⟩) with ⟨v, vm₁, ⟨U', l2, c2, s2⟩, hW₁, X', ⟨g', mk, t, L, e1, e2, hq, h1, hL, h2, h3⟩, st⟩ | ⟨q, vm₁, ⟨U', l2, c2, s2⟩, hW₁, X', ⟨g', mk, t, L, E, ce, e1, e2, hq, hce, hcv, hcl, h1, hL, h2, h3⟩, st⟩
  · dsimp only [Pt.U, Pt.locs, Pt.cells, Pt.slots] at X' e1 e2 h1 h2 h3 st
    subst h1; subst h2; subst h3
    exact Or.inl ⟨v, (T.setVm vm₁).calling g' mk As.toArray, t, U', L, hT, X', hL, e1, e2, hq, st⟩
  · dsimp only [Pt.U, Pt.locs, Pt.cells, Pt.slots] at X' e1 e2 h1 h2 h3 st hcl
    subst h1; subst h2; subst h3
    exact Or.inr ⟨q, (T.setVm vm₁).calling g' mk As.toArray, t, U', L, E, ce, hT, X', hL, e1, e2, hq, hce, hcv, vx_cls hW₁ hcl, st⟩
end Runs
section Rows
variable {p : Program} {l : Launch} {e : Env} {R : Room} {s : State} {m : MethodId} {args : Array Value} {below : List Frame} {meth : Method} {c : Code} {H : Heap} {locs : List Loc} {cells slots : Nat} {Q : State → Prop}
variable {mc ms : Nat} {free : Addr → Prop} {A0 A1 : Nat → Prop} {H0 : Heap} {a : Array Value} {pc : Nat} {ls : Array Slot} {st0 rest : List Value}
theorem vx_keep {st₀ t T' : State} {L : List Loc} (h0 : st₀.heap = H) (e1 : T'.heap = t.heap) (hS : va_S A0 H0 H locs) (hA : ∀ q, q < H.size → A1 q → A0 q) (hf : ∀ q, free q → A0 q) (hL : ∀ q ∈ L, free q.base) (hF : va_F A1 st₀ t) :
    H.size ≤ T'.heap.size ∧ (∀ q : Nat, q < H.size → ¬ A1 q → T'.heap[q]? = H[q]?) ∧ va_S A0 H0 T'.heap (locs ++ L) := by
  obtain ⟨hz, hk⟩ := hF
  rw [h0] at hz hk
  exact ⟨by rw [e1]; exact hz, fun q h1 h2 => by rw [e1]; exact hk q h1 h2,
    ⟨Nat.le_trans hS.1 (by rw [e1]; exact hz), fun q h1 h2 => by rw [e1, hk q (Nat.lt_of_lt_of_le h1 hS.1) (fun z => h2 (hA q (Nat.lt_of_lt_of_le h1 hS.1) z))]; exact hS.2.1 q h1 h2, fun q hq => by
      rcases List.mem_append.mp hq with h | h
      · exact hS.2.2 q h
      · exact hf _ (hL q h)⟩⟩
theorem vx_calli {S SX : Type} {post : Int32 → S → Prop} {px : SX → Prop} {B : S → State → Prop} {BX : String → SX → State → Prop} {AX : Nat → Prop} (hr : vx_Run p l e R s m args below meth c H locs cells slots mc ms (F0 m pc ls st0) rest (va_Qi post B A1 a) (vx_X px BX AX) free) (hS : va_S A0 H0 H locs) (hA : ∀ q, q < H.size → A1 q → A0 q) (hf : ∀ q, free q → A0 q) (hAX : ∀ q, q < H.size → AX q → A0 q)
    (kx : ∀ (E : String) (ce : Cell) (q9 : Addr) (u : SX) (t : State) (H1 : Heap) (locs1 : List Loc), t.heap = H1 → s.vm.Alike t.vm → px u → BX E u t → H.size ≤ H1.size → (∀ q : Nat, q < H.size → ¬ AX q → H1[q]? = H[q]?) → va_S A0 H0 H1 locs1 → H1[q9]? = some ce → ce.vm = .none → s.vm.findClass E = some ce.cls → vx_W p l e R s m args below meth c H1 locs1 (cells + mc) (slots + ms) Q (F0 m pc ls rest) q9)
    (kk : ∀ (r : Int32) (u : S) (t : State) (H1 : Heap) (locs1 : List Loc), t.heap = H1 → s.vm.Alike t.vm → post r u → B u t → H.size ≤ H1.size → (∀ q : Nat, q < H.size → ¬ A1 q → H1[q]? = H[q]?) → va_S A0 H0 H1 locs1 → W p l e R s m args below meth c H1 locs1 (cells + mc) (slots + ms) Q (F0 m (pc + 3) ls (.int r :: rest))) : W p l e R s m args below meth c H locs cells slots Q (F0 m pc ls st0) := by
  intro T hT X
  rcases hr T hT X with ⟨v, st₀, t, T', L, h0, X', hL, e1, e2, ⟨⟨r, u, hv, hp, hb⟩, hF⟩, st⟩ | ⟨q, st₀, t, T', L, E, ce, h0, X', hL, e1, e2, ⟨u, hp, hb, hF⟩, hce, hcv, hcl, st⟩
  · cases hv
    obtain ⟨k1, k2, k3⟩ := vx_keep h0 e1 hS hA hf hL hF
    obtain ⟨t2, a1, b1⟩ := kk r u t T'.heap (locs ++ L) e1.symm (by rw [← e2]; exact X'.warmed.alike) hp hb k1 k2 k3 T' rfl X'
    exact ⟨t2, st t2 a1, b1⟩
  · obtain ⟨k1, k2, k3⟩ := vx_keep h0 e1 hS hAX hf hL hF
    obtain ⟨t2, a1, b1⟩ := kx E ce q u t T'.heap (locs ++ L) e1.symm (by rw [← e2]; exact X'.warmed.alike) hp hb k1 k2 k3 (by rw [e1]; exact hce) hcv hcl T' rfl X'
    exact ⟨t2, st.trans a1, b1⟩
theorem vx_calll {S SX : Type} {post : Int64 → S → Prop} {px : SX → Prop} {B : S → State → Prop} {BX : String → SX → State → Prop} {AX : Nat → Prop} (hr : vx_Run p l e R s m args below meth c H locs cells slots mc ms (F0 m pc ls st0) rest (va_Ql post B A1 a) (vx_X px BX AX) free) (hS : va_S A0 H0 H locs) (hA : ∀ q, q < H.size → A1 q → A0 q) (hf : ∀ q, free q → A0 q) (hAX : ∀ q, q < H.size → AX q → A0 q)
    (kx : ∀ (E : String) (ce : Cell) (q9 : Addr) (u : SX) (t : State) (H1 : Heap) (locs1 : List Loc), t.heap = H1 → s.vm.Alike t.vm → px u → BX E u t → H.size ≤ H1.size → (∀ q : Nat, q < H.size → ¬ AX q → H1[q]? = H[q]?) → va_S A0 H0 H1 locs1 → H1[q9]? = some ce → ce.vm = .none → s.vm.findClass E = some ce.cls → vx_W p l e R s m args below meth c H1 locs1 (cells + mc) (slots + ms) Q (F0 m pc ls rest) q9)
    (kk : ∀ (r : Int64) (u : S) (t : State) (H1 : Heap) (locs1 : List Loc), t.heap = H1 → s.vm.Alike t.vm → post r u → B u t → H.size ≤ H1.size → (∀ q : Nat, q < H.size → ¬ A1 q → H1[q]? = H[q]?) → va_S A0 H0 H1 locs1 → W p l e R s m args below meth c H1 locs1 (cells + mc) (slots + ms) Q (F0 m (pc + 3) ls (.long r :: rest))) : W p l e R s m args below meth c H locs cells slots Q (F0 m pc ls st0) := by
  intro T hT X
  rcases hr T hT X with ⟨v, st₀, t, T', L, h0, X', hL, e1, e2, ⟨⟨r, u, hv, hp, hb⟩, hF⟩, st⟩ | ⟨q, st₀, t, T', L, E, ce, h0, X', hL, e1, e2, ⟨u, hp, hb, hF⟩, hce, hcv, hcl, st⟩
  · cases hv
    obtain ⟨k1, k2, k3⟩ := vx_keep h0 e1 hS hA hf hL hF
    obtain ⟨t2, a1, b1⟩ := kk r u t T'.heap (locs ++ L) e1.symm (by rw [← e2]; exact X'.warmed.alike) hp hb k1 k2 k3 T' rfl X'
    exact ⟨t2, st t2 a1, b1⟩
  · obtain ⟨k1, k2, k3⟩ := vx_keep h0 e1 hS hAX hf hL hF
    obtain ⟨t2, a1, b1⟩ := kx E ce q u t T'.heap (locs ++ L) e1.symm (by rw [← e2]; exact X'.warmed.alike) hp hb k1 k2 k3 (by rw [e1]; exact hce) hcv hcl T' rfl X'
    exact ⟨t2, st.trans a1, b1⟩
theorem vx_callf {S SX : Type} {post : UInt32 → S → Prop} {px : SX → Prop} {B : S → State → Prop} {BX : String → SX → State → Prop} {AX : Nat → Prop} (hr : vx_Run p l e R s m args below meth c H locs cells slots mc ms (F0 m pc ls st0) rest (va_Qf post B A1 a) (vx_X px BX AX) free) (hS : va_S A0 H0 H locs) (hA : ∀ q, q < H.size → A1 q → A0 q) (hf : ∀ q, free q → A0 q) (hAX : ∀ q, q < H.size → AX q → A0 q)
    (kx : ∀ (E : String) (ce : Cell) (q9 : Addr) (u : SX) (t : State) (H1 : Heap) (locs1 : List Loc), t.heap = H1 → s.vm.Alike t.vm → px u → BX E u t → H.size ≤ H1.size → (∀ q : Nat, q < H.size → ¬ AX q → H1[q]? = H[q]?) → va_S A0 H0 H1 locs1 → H1[q9]? = some ce → ce.vm = .none → s.vm.findClass E = some ce.cls → vx_W p l e R s m args below meth c H1 locs1 (cells + mc) (slots + ms) Q (F0 m pc ls rest) q9)
    (kk : ∀ (r : UInt32) (u : S) (t : State) (H1 : Heap) (locs1 : List Loc), t.heap = H1 → s.vm.Alike t.vm → post r u → B u t → H.size ≤ H1.size → (∀ q : Nat, q < H.size → ¬ A1 q → H1[q]? = H[q]?) → va_S A0 H0 H1 locs1 → W p l e R s m args below meth c H1 locs1 (cells + mc) (slots + ms) Q (F0 m (pc + 3) ls (.float r :: rest))) : W p l e R s m args below meth c H locs cells slots Q (F0 m pc ls st0) := by
  intro T hT X
  rcases hr T hT X with ⟨v, st₀, t, T', L, h0, X', hL, e1, e2, ⟨⟨r, u, hv, hp, hb⟩, hF⟩, st⟩ | ⟨q, st₀, t, T', L, E, ce, h0, X', hL, e1, e2, ⟨u, hp, hb, hF⟩, hce, hcv, hcl, st⟩
  · cases hv
    obtain ⟨k1, k2, k3⟩ := vx_keep h0 e1 hS hA hf hL hF
    obtain ⟨t2, a1, b1⟩ := kk r u t T'.heap (locs ++ L) e1.symm (by rw [← e2]; exact X'.warmed.alike) hp hb k1 k2 k3 T' rfl X'
    exact ⟨t2, st t2 a1, b1⟩
  · obtain ⟨k1, k2, k3⟩ := vx_keep h0 e1 hS hAX hf hL hF
    obtain ⟨t2, a1, b1⟩ := kx E ce q u t T'.heap (locs ++ L) e1.symm (by rw [← e2]; exact X'.warmed.alike) hp hb k1 k2 k3 (by rw [e1]; exact hce) hcv hcl T' rfl X'
    exact ⟨t2, st.trans a1, b1⟩
theorem vx_calld {S SX : Type} {post : UInt64 → S → Prop} {px : SX → Prop} {B : S → State → Prop} {BX : String → SX → State → Prop} {AX : Nat → Prop} (hr : vx_Run p l e R s m args below meth c H locs cells slots mc ms (F0 m pc ls st0) rest (va_Qd post B A1 a) (vx_X px BX AX) free) (hS : va_S A0 H0 H locs) (hA : ∀ q, q < H.size → A1 q → A0 q) (hf : ∀ q, free q → A0 q) (hAX : ∀ q, q < H.size → AX q → A0 q)
    (kx : ∀ (E : String) (ce : Cell) (q9 : Addr) (u : SX) (t : State) (H1 : Heap) (locs1 : List Loc), t.heap = H1 → s.vm.Alike t.vm → px u → BX E u t → H.size ≤ H1.size → (∀ q : Nat, q < H.size → ¬ AX q → H1[q]? = H[q]?) → va_S A0 H0 H1 locs1 → H1[q9]? = some ce → ce.vm = .none → s.vm.findClass E = some ce.cls → vx_W p l e R s m args below meth c H1 locs1 (cells + mc) (slots + ms) Q (F0 m pc ls rest) q9)
    (kk : ∀ (r : UInt64) (u : S) (t : State) (H1 : Heap) (locs1 : List Loc), t.heap = H1 → s.vm.Alike t.vm → post r u → B u t → H.size ≤ H1.size → (∀ q : Nat, q < H.size → ¬ A1 q → H1[q]? = H[q]?) → va_S A0 H0 H1 locs1 → W p l e R s m args below meth c H1 locs1 (cells + mc) (slots + ms) Q (F0 m (pc + 3) ls (.double r :: rest))) : W p l e R s m args below meth c H locs cells slots Q (F0 m pc ls st0) := by
  intro T hT X
  rcases hr T hT X with ⟨v, st₀, t, T', L, h0, X', hL, e1, e2, ⟨⟨r, u, hv, hp, hb⟩, hF⟩, st⟩ | ⟨q, st₀, t, T', L, E, ce, h0, X', hL, e1, e2, ⟨u, hp, hb, hF⟩, hce, hcv, hcl, st⟩
  · cases hv
    obtain ⟨k1, k2, k3⟩ := vx_keep h0 e1 hS hA hf hL hF
    obtain ⟨t2, a1, b1⟩ := kk r u t T'.heap (locs ++ L) e1.symm (by rw [← e2]; exact X'.warmed.alike) hp hb k1 k2 k3 T' rfl X'
    exact ⟨t2, st t2 a1, b1⟩
  · obtain ⟨k1, k2, k3⟩ := vx_keep h0 e1 hS hAX hf hL hF
    obtain ⟨t2, a1, b1⟩ := kx E ce q u t T'.heap (locs ++ L) e1.symm (by rw [← e2]; exact X'.warmed.alike) hp hb k1 k2 k3 (by rw [e1]; exact hce) hcv hcl T' rfl X'
    exact ⟨t2, st.trans a1, b1⟩
theorem vx_callv {S SX : Type} {post : S → Prop} {px : SX → Prop} {B : S → State → Prop} {BX : String → SX → State → Prop} {AX : Nat → Prop} (hr : vx_Run p l e R s m args below meth c H locs cells slots mc ms (F0 m pc ls st0) rest (va_Qv post B A1 a) (vx_X px BX AX) free) (hS : va_S A0 H0 H locs) (hA : ∀ q, q < H.size → A1 q → A0 q) (hf : ∀ q, free q → A0 q) (hAX : ∀ q, q < H.size → AX q → A0 q)
    (kx : ∀ (E : String) (ce : Cell) (q9 : Addr) (u : SX) (t : State) (H1 : Heap) (locs1 : List Loc), t.heap = H1 → s.vm.Alike t.vm → px u → BX E u t → H.size ≤ H1.size → (∀ q : Nat, q < H.size → ¬ AX q → H1[q]? = H[q]?) → va_S A0 H0 H1 locs1 → H1[q9]? = some ce → ce.vm = .none → s.vm.findClass E = some ce.cls → vx_W p l e R s m args below meth c H1 locs1 (cells + mc) (slots + ms) Q (F0 m pc ls rest) q9)
    (kk : ∀ (u : S) (t : State) (H1 : Heap) (locs1 : List Loc), t.heap = H1 → s.vm.Alike t.vm → post u → B u t → H.size ≤ H1.size → (∀ q : Nat, q < H.size → ¬ A1 q → H1[q]? = H[q]?) → va_S A0 H0 H1 locs1 → W p l e R s m args below meth c H1 locs1 (cells + mc) (slots + ms) Q (F0 m (pc + 3) ls (rest))) : W p l e R s m args below meth c H locs cells slots Q (F0 m pc ls st0) := by
  intro T hT X
  rcases hr T hT X with ⟨v, st₀, t, T', L, h0, X', hL, e1, e2, ⟨⟨u, hv, hp, hb⟩, hF⟩, st⟩ | ⟨q, st₀, t, T', L, E, ce, h0, X', hL, e1, e2, ⟨u, hp, hb, hF⟩, hce, hcv, hcl, st⟩
  · cases hv
    obtain ⟨k1, k2, k3⟩ := vx_keep h0 e1 hS hA hf hL hF
    obtain ⟨t2, a1, b1⟩ := kk u t T'.heap (locs ++ L) e1.symm (by rw [← e2]; exact X'.warmed.alike) hp hb k1 k2 k3 T' rfl X'
    exact ⟨t2, st t2 a1, b1⟩
  · obtain ⟨k1, k2, k3⟩ := vx_keep h0 e1 hS hAX hf hL hF
    obtain ⟨t2, a1, b1⟩ := kx E ce q u t T'.heap (locs ++ L) e1.symm (by rw [← e2]; exact X'.warmed.alike) hp hb k1 k2 k3 (by rw [e1]; exact hce) hcv hcl T' rfl X'
    exact ⟨t2, st.trans a1, b1⟩
/-- caught by the row x of this method's table; the rows ahead don't take it -/
theorem vx_catch {own name : String} {E : String} {ce : Cell} {q : Addr} (hown : s.vm.findClass own = some m.cls) (pre : List ExceptionTableEntry) (x : ExceptionTableEntry) (suf : List ExceptionTableEntry) (hsplit : c.exceptionTable.toList = pre ++ x :: suf)
    (hpass : ∀ z ∈ pre, covers z pc = false ∨ (z.catchType ≠ 0 ∧ ∃ nm : String, (Cond.classLink own z.catchType nm).before args s = true ∧ va_Nc E nm s)) (hx : covers x pc = true) (h0 : x.catchType ≠ 0)
    (hlink : (Cond.classLink own x.catchType name).before args s = true) (hcast : (Cond.castable E name).before args s = true) (hcell : H[q]? = some ce) (hv : ce.vm = .none) (hcl : s.vm.findClass E = some ce.cls)
    (kk : W p l e R s m args below meth c H locs cells slots Q (F0 m x.handlerPc ls [.ref q])) : vx_W p l e R s m args below meth c H locs cells slots Q (F0 m pc ls rest) q := by
  intro T hT X
  have hpl : e.platform.magicAccessors = ({} : Platform).magicAccessors := by rw [X.admits.platform]
  obtain ⟨c3, c4, hc3, hc4, hasg⟩ := Cond.castable_spec hcast
  cases Option.some.inj (hc3.symm.trans hcl)
  obtain ⟨c5, hc5, hcl5⟩ := Cond.classLink_spec hown hlink e.platform hpl
  cases Option.some.inj (hc4.symm.trans hc5)
  obtain ⟨vm', X', st⟩ := X.thenCaughtThrough q (g := F0 m pc ls rest) rfl (Steps.refl _) (by rw [hT]; exact hcell) (by rw [hv]; rfl) (by obtain ⟨k9, h9, -⟩ := Vm.findClass_spec hcl; exact ⟨k9, h9⟩) pre x suf hsplit
    (fun z hz => by
      rcases hpass z hz with h | ⟨hz0, nm, hl1, hn1⟩
      · exact Or.inl h
      · obtain ⟨c6, hc6, hcl6⟩ := Cond.classLink_spec hown hl1 e.platform hpl
        obtain ⟨a8, b8, h1, h2, h3⟩ := hn1
        cases Option.some.inj (h1.symm.trans hcl)
        cases Option.some.inj (h2.symm.trans hc6)
        exact Or.inr ⟨hz0, _, hcl6, h3⟩) hx (Or.inr ⟨h0, c4, hcl5, hasg⟩)
  obtain ⟨t, a1, b1⟩ := kk (T.setVm vm') hT X'
  exact ⟨t, st.trans a1, b1⟩
end Rows
section Ends
variable {p : Program} {l : Launch} {e : Env} {R : Room} {s : State} {m : MethodId} {args : Array Value} {below : List Frame} {meth : Method} {c : Code} {H : Heap} {locs : List Loc} {cells slots : Nat} {Q : State → Prop}
variable {mc ms : Nat} {free : Addr → Prop} {A0 A1 : Nat → Prop} {H0 : Heap} {a : Array Value} {ls : Array Slot} {st0 rest : List Value}
variable {Qc : Array Value → State → Outcome → State → Prop} {XC : String → State → State → Prop}
/-- what a body that may throw owes at its end -/
def vx_MQ (below : List Frame) (Qc : Array Value → State → Outcome → State → Prop) (XC : String → State → State → Prop) (a : Array Value) (s : State) (mc ms : Nat) (free : Addr → Prop) : State → Prop := fun t =>
  ∃ o, t.status = .running ∧ Ended t below o ∧ vx_Q Qc XC mc ms free a s o t
theorem vx_ret {g : JFrame} {mc ms : Nat} (k : W p l e R s m args below meth c H locs cells slots (MQ below Qc args s mc ms free) g) : W p l e R s m args below meth c H locs cells slots (vx_MQ below Qc XC args s mc ms free) g := by
  intro T hT X
  obtain ⟨t, a1, o, b1, b2, b3, b4⟩ := k T hT X
  exact ⟨t, a1, o, b1, b2, Or.inl ⟨b3, b4⟩⟩
/-- not caught here: it goes on to the caller -/
theorem vx_widen {g : JFrame} {q : Addr} {k n : Nat} (h1 : cells ≤ k) (h2 : slots ≤ n) (kk : vx_W p l e R s m args below meth c H locs k n Q g q) : vx_W p l e R s m args below meth c H locs cells slots Q g q := fun T hT X => kk T hT (stand_widen X h1 h2)
theorem vx_out {pc : Nat} {E : String} {ce : Cell} {q : Addr} {mc ms : Nat} (hout : ∀ x ∈ c.exceptionTable.toList, covers x pc = false) (hlocks : meth.locks = false) (hcell : H[q]? = some ce) (hv : ce.vm = .none) (hcl : s.vm.findClass E = some ce.cls)
    (hx : ∀ t : State, t.heap = H → s.vm.Alike t.vm → XC E s t) (hf : ∀ z ∈ locs, free z.base) (hc : cells ≤ mc) (hs : slots ≤ ms) :
    vx_W p l e R s m args below meth c H locs cells slots (vx_MQ below Qc XC args s mc ms free) (F0 m pc ls rest) q := by
  intro T hT X
  obtain ⟨st1, hrun, hend, hW, hsm⟩ := X.leaveThrown q (g := F0 m pc ls rest) rfl rfl rfl hout hlocks
  have hcell9 : (T.setFrames (.throwing q :: below)).heap[q]? = some ce := by
    show T.heap[q]? = some ce
    rw [hT]; exact hcell
  exact ⟨_, st1, .threw q, hrun, hend, Or.inr ⟨q, rfl, E, ce, locs, hx _ hT hW.alike, hcell9, hv, hcl, hW, hsm.mono hc hs, hf⟩⟩
theorem vx_frame {U : State} {k n : Nat} (h : s.sameButNew ({ U with vm := s.vm } : State) locs k n) : s.heap.size ≤ U.heap.size ∧ ∀ q : Nat, q < s.heap.size → (∀ z ∈ locs, z.base ≠ q) → U.heap[q]? = s.heap[q]? := by
  obtain ⟨-, h2, -, -, -, h6⟩ := h
  refine ⟨h2, fun q hq hz => ?_⟩
  obtain ⟨c9, e1, e2, e3, e4⟩ := h6 q _ (Array.getElem?_eq_getElem hq)
  have hs : c9.slots = (s.heap[q]).slots := Array.ext_getElem? fun i => e4 i fun hm => hz _ hm rfl
  have h9 : c9 = s.heap[q] := by
    rw [hs] at e2
    exact e2
  have e5 : U.heap[q]? = some c9 := e1
  rw [e5, h9, Array.getElem?_eq_getElem hq]
/-- the words of a throw but the four that speak of the heap -/
def vx_no (w : Cond) : Bool := decide (w ≠ .isRef (.static Bundle.tN "UNASSIGNED_STACK" Bundle.steD)) && decide (w ≠ .isRef (.static Bundle.tN "SUPPRESSED_SENTINEL" Bundle.listD)) && decide (w ≠ .laysStatic Bundle.tN "UNASSIGNED_STACK" Bundle.steD) && decide (w ≠ .laysStatic Bundle.tN "SUPPRESSED_SENTINEL" Bundle.listD)
def vx_at0 (own : String) (ic : Nat) (X : String) (names : List String) : List Cond := (Bundle.ownAtoms0 own ic X names).filter vx_no
def vx_atS (own : String) (ic : Nat) (X : String) (names : List String) : List Cond := (Bundle.ownAtoms own ic X names).filter vx_no
/-- a word that the tables alone decide, or a good one -/
def vx_ot (w : Cond) : Bool := w.onTables || goodWord w
theorem vx_ot_at {args a' : Array Value} {s U : State} {w : Cond} (hW : s.WarmedH U.vm) (hvm : s.vm = U.vm) (hg : vx_ot w = true) (h : w.before args s = true) : w.before a' U = true := by
  simp only [vx_ot, Bool.or_eq_true] at hg
  rcases hg with hg | hg
  · exact va_tabs hg hvm h
  · exact word_at hW (good_of_word hg) h
/-- a list's words: the good ones out of the method's own list, the others by premises of their own -/
theorem vx_hat {args : Array Value} {s : State} {L B : List Cond} (h1 : ∀ w ∈ L.filter goodWord, w.before args s = true) (h2 : ∀ w ∈ L.filter (fun w => !goodWord w), w ∈ B) (h3 : ∀ w ∈ B, w.before args s = true) : ∀ w ∈ L, w.before args s = true := by
  intro w hw
  by_cases g : goodWord w = true
  · exact h1 w (List.mem_filter.mpr ⟨hw, g⟩)
  · refine h3 w (h2 w (List.mem_filter.mpr ⟨hw, ?_⟩))
    show (!goodWord w) = true
    cases hgw : goodWord w
    · rfl
    · exact absurd hgw g
theorem vx_c {args : Array Value} {s : State} {w : Cond} {B : List Cond} (h : w.before args s = true) (t : ∀ w ∈ B, w.before args s = true) : ∀ w' ∈ w :: B, w'.before args s = true := fun w' h' => (List.mem_cons.mp h').elim (fun e => by rw [e]; exact h) (t w')
theorem vx_n {args : Array Value} {s : State} : ∀ w ∈ ([] : List Cond), w.before args s = true := fun _ h => nomatch h
theorem vx_own {args : Array Value} {s : State} {L : List Cond} (h1 : ∀ w ∈ L.filter vx_no, w.before args s = true)
    (hU : (Cond.isRef (.static Bundle.tN "UNASSIGNED_STACK" Bundle.steD)).before args s = true) (hN : (Cond.isRef (.static Bundle.tN "SUPPRESSED_SENTINEL" Bundle.listD)).before args s = true)
    (lU : (Cond.laysStatic Bundle.tN "UNASSIGNED_STACK" Bundle.steD).before args s = true) (lN : (Cond.laysStatic Bundle.tN "SUPPRESSED_SENTINEL" Bundle.listD).before args s = true) : ∀ w ∈ L, w.before args s = true := by
  intro w hw
  by_cases e1 : w = .isRef (.static Bundle.tN "UNASSIGNED_STACK" Bundle.steD)
  · rw [e1]; exact hU
  · by_cases e2 : w = .isRef (.static Bundle.tN "SUPPRESSED_SENTINEL" Bundle.listD)
    · rw [e2]; exact hN
    · by_cases e3 : w = .laysStatic Bundle.tN "UNASSIGNED_STACK" Bundle.steD
      · rw [e3]; exact lU
      · by_cases e4 : w = .laysStatic Bundle.tN "SUPPRESSED_SENTINEL" Bundle.listD
        · rw [e4]; exact lN
        · exact h1 w (List.mem_filter.mpr ⟨hw, by unfold vx_no; rw [decide_eq_true e1, decide_eq_true e2, decide_eq_true e3, decide_eq_true e4]; rfl⟩)
/-- where a static field lies, its class's statics cell in H -/
def vx_L (C n d : String) (A : Nat → Prop) (U : State) (H : Heap) : Prop := ∃ (c : ClassId) (k : Class) (i : Nat) (f : Field) (a : Nat) (cell : Cell), U.vm.findClass C = some c ∧ U.fieldFound? C n d = some (c, k, i, f) ∧ f.isStatic = true ∧ k.statics = some a ∧ H[a]? = some cell ∧ cell.vm.isStatics = true ∧ cell.cls = c ∧ f.slot < cell.slots.size ∧ k.staticTypes[f.slot]? = some f.type ∧ ¬ A a
theorem vx_L.moved {C n d : String} {A : Nat → Prop} {u U : State} {H : Heap} (hvm : u.vm.Alike U.vm) (h : vx_L C n d A u H) : vx_L C n d A U H := by
  obtain ⟨c, k, i, f, a, cell, h1, h2, h3, h4, h5, h6, h7, h8, h9, h10⟩ := h
  obtain ⟨k', hi', he⟩ := State.fieldFound?_setVm hvm h2
  exact ⟨c, k', i, f, a, cell, by rw [hvm.findClass]; exact h1, hi', h3, by rw [he]; exact h4, h5, h6, h7, h8, by rw [he]; exact h9, h10⟩
theorem vx_L.kept {C n d : String} {A : Nat → Prop} {U : State} {H H1 : Heap} (h : vx_L C n d A U H) (hq : ∀ a : Nat, a < H.size → ¬ A a → H1[a]? = H[a]?) : vx_L C n d A U H1 := by
  obtain ⟨c, k, i, f, a, cell, h1, h2, h3, h4, h5, h6, h7, h8, h9, h10⟩ := h
  exact ⟨c, k, i, f, a, cell, h1, h2, h3, h4, by rw [hq a (Array.getElem?_eq_some_iff.mp h5).1 h10]; exact h5, h6, h7, h8, h9, h10⟩
theorem vx_L.narrow {C n d : String} {A B : Nat → Prop} {U : State} {H : Heap} (h : vx_L C n d A U H) (hAB : ∀ q, B q → A q) : vx_L C n d B U H := by
  obtain ⟨c, k, i, f, a, cell, h1, h2, h3, h4, h5, h6, h7, h8, h9, h10⟩ := h
  exact ⟨c, k, i, f, a, cell, h1, h2, h3, h4, h5, h6, h7, h8, h9, fun z => h10 (hAB _ z)⟩
theorem vx_L.word {C n d : String} {A : Nat → Prop} {s : State} {args : Array Value} (h : vx_L C n d A s s.heap) : (Cond.laysStatic C n d).before args s = true := by
  obtain ⟨c, k, i, f, a, cell, h1, h2, h3, h4, h5, h6, h7, h8, h9, -⟩ := h
  show (Cond.laysStatic C n d).holds args s none s [] = true
  exact Cond.laysStatic_of h1 h2 h3 h4 h5 h6 h7 h8 h9
/-- .. and what it holds: null or some reference -/
def vx_Zq (C n d : String) (A : Nat → Prop) (U : State) (H : Heap) : Prop := va_Zq C n d A U H ∧ vx_L C n d A U H
theorem vx_Zq.moved {C n d : String} {A : Nat → Prop} {u U : State} {H : Heap} (hvm : u.vm.Alike U.vm) (h : vx_Zq C n d A u H) : vx_Zq C n d A U H := ⟨va_Zq.moved hvm h.1, vx_L.moved hvm h.2⟩
theorem vx_Zq.kept {C n d : String} {A : Nat → Prop} {U : State} {H H1 : Heap} (h : vx_Zq C n d A U H) (hq : ∀ a : Nat, a < H.size → ¬ A a → H1[a]? = H[a]?) : vx_Zq C n d A U H1 := ⟨va_Zq.kept h.1 hq, vx_L.kept h.2 hq⟩
theorem vx_Zq.narrow {C n d : String} {A B : Nat → Prop} {U : State} {H : Heap} (h : vx_Zq C n d A U H) (hAB : ∀ q, B q → A q) : vx_Zq C n d B U H := ⟨va_Zq.narrow h.1 hAB, vx_L.narrow h.2 hAB⟩
theorem vx_Zqof {args : Array Value} {s : State} {C n d : String} {A : Nat → Prop} (hl : (Cond.laysStatic C n d).before args s = true) (hini : (Cond.initialized C).before args s = true) (h : (Cond.isRef (.static C n d)).before args s = true) (hA : ∀ a : Nat, a < s.heap.size → ¬ A a) : vx_Zq C n d A s s.heap := by
  refine ⟨va_Zqof hl hini h hA, ?_⟩
  obtain ⟨c, k, i, f, a, cell, h1, h2, h3, h4, h5, h6, h7, h8, h9⟩ := Cond.laysStatic_spec hl
  exact ⟨c, k, i, f, a, cell, h1, h2, h3, h4, h5, h6, h7, h8, h9, hA a (Array.getElem?_eq_some_iff.mp h5).1⟩
theorem vx_isRef {C n d : String} {v : Value} {A : Nat → Prop} {s : State} {args : Array Value} (h : va_Z C n d v A s s.heap) (hv : v.isRef = true) : (Cond.isRef (.static C n d)).before args s = true := by
  obtain ⟨cf, kf, fi, f, a, cell, h1, h2, h3, h4, h5, h6, h7, -⟩ := h
  have he : (Term.static C n d).eval args s none [] s = some v := by
    simp [Term.eval, State.fieldNamed?, h1, h2, h4, h5, h6, h7]
  simp only [Cond.before, Cond.holds, Cond.value, he]
  cases v <;> simp_all [Value.isRef]
theorem vx_isRefq {C n d : String} {A : Nat → Prop} {s : State} {args : Array Value} (h : va_Zq C n d A s s.heap) : (Cond.isRef (.static C n d)).before args s = true := by
  rcases h with h | ⟨t, h⟩
  · exact vx_isRef h rfl
  · exact vx_isRef h rfl
/-- the same frame, seen from here: as if the method were called anew in this heap -/
theorem vx_rebase {T : State} (X : Stand p l e R s m args below meth c T locs cells slots) {R' : Room} (hf : R'.frames ≤ R.frames) (hl : R'.locals ≤ R.locals) (hc : cells + R'.cells ≤ R.cells) (hs : slots + R'.slots ≤ R.slots) :
    Stand p l e R' ((T.setVm s.vm).setFrames (.invoking m args :: below)) m args below meth c T [] 0 0 := by
  have htop : (T.setVm s.vm).topJava?.isSome := X.here.top
  have hF : ((T.setVm s.vm).setFrames (.invoking m args :: below)).frames = .invoking m args :: below := State.frames_setFrames _ (State.cur_lt_of_top htop)
  obtain ⟨g₀, hg0⟩ := Option.isSome_iff_exists.mp htop
  obtain ⟨r, hr⟩ := State.topJava?_eq_some.mp hg0
  have hl9 : e.platform.stackLimits (T.setVm s.vm).me = e.platform.stackLimits s.me := X.limits
  have hb9 : (T.setVm s.vm).me.stackBytes = s.me.stackBytes := X.bytes
  refine ⟨X.admits, X.cas, X.clock, hF, ?_, X.hears, X.method, X.code, X.here, X.tail, X.warmed, ?_, ?_, ?_⟩
  · have h := X.room
    have hU : ((T.setVm s.vm).setFrames (.invoking m args :: below)).localsInUse = s.localsInUse := by
      rw [State.localsInUse_invoking hF (meth := meth) (c := c) X.method X.code, State.localsInUse_invoking X.frames X.method X.code]
    simp only [State.hasRoom, Bool.and_eq_true, decide_eq_true_eq] at h ⊢
    obtain ⟨⟨⟨⟨h1, h2, h3, h4, h5, h6⟩, h7⟩, h8⟩, h9⟩ := h
    rw [X.frames, List.length_cons] at h2 h3
    have q1 := X.heapSize
    have q2 := X.used
    simp only [hF, hU, List.length_cons, State.stackLimits_setFrames, State.stackBytes_setFrames, hl9, hb9]
    refine ⟨⟨⟨⟨by omega, by omega, by omega, by omega, by omega, h6⟩, ?_⟩, ?_⟩, X.book⟩
    · show T.heap.size + R'.cells ≤ e.platform.maxCells
      omega
    · show T.slotsUsed + R'.slots ≤ e.platform.maxSlots
      omega
  · rw [State.stackLimits_setFrames]; rfl
  · rw [State.stackBytes_setFrames]; rfl
  · refine ⟨?_, Nat.le_refl _, Nat.le_refl _, ?_, ?_, fun a c9 h9 => ⟨c9, h9, rfl, rfl, fun _ _ => rfl⟩⟩
    · obtain ⟨t, ht, -⟩ := State.frames_cons hr
      show T.setVm s.vm = { ((T.setVm s.vm).setFrames (.invoking m args :: below)).setFrames (T.setVm s.vm).frames with heap := T.heap, slotsUsed := T.slotsUsed }
      rw [State.setFrames_setFrames, State.setFrames_self ht]
      rfl
    · show T.slotsUsed = T.slotsUsed + ((T.heap.toList.drop T.heap.size).map (·.slots.size)).sum
      rw [List.drop_eq_nil_of_le (Nat.le_of_eq Array.length_toList)]
      rfl
    · show ((T.heap.toList.drop T.heap.size).map (·.slots.size)).sum ≤ 0
      rw [List.drop_eq_nil_of_le (Nat.le_of_eq Array.length_toList)]
      exact Nat.le_refl _
/-- 'throw new E()': new; dup; invokespecial; athrow -/
theorem vx_throw0 {cc : ByteArray} {pc : Nat} (hexec : p.tables.exec = Jvm.exec) (hb : c.code = cc) (hl : l.stackTraces = false) {own cls : String} {names : List String} {ik ic mc ms : Nat} {A : Nat → Prop}
    (hown : s.vm.findClass own = some m.cls) (hcls : Bundle.fit cls = true) (hnames : ∀ n ∈ names, Bundle.fit n = true)
    (hk : (Cond.classLink own ik cls).before args s = true) (hini : (Cond.initialized cls).before args s = true) (hat : ∀ w ∈ vx_at0 own ic cls names, w.before args s = true)
    (hgood : ∀ w ∈ Cond.classLink own ik cls :: Cond.initialized cls :: vx_at0 own ic cls names, vx_ot w = true)
    (hU : vx_Zq Bundle.tN "UNASSIGNED_STACK" Bundle.steD A s s.heap) (hN : vx_Zq Bundle.tN "SUPPRESSED_SENTINEL" Bundle.listD A s s.heap) (hS : va_S A s.heap H locs) (hsize : ls.size = c.maxLocals)
    (d0 : decode cc pc = .ok (.new ik, 3)) (d3 : decode cc (pc + 3) = .ok (.dup, 1)) (d4 : decode cc (pc + 4) = .ok (.invokespecial ic, 3)) (d7 : decode cc (pc + 7) = .ok (.athrow, 1))
    (hout : ∀ x ∈ c.exceptionTable.toList, covers x (pc + 7) = false)
    (hRframes : names.length + 3 < R.frames) (hRlocals : (rest.map fun v => v.category).sum + (13 * (names.length + 1) + 42) ≤ R.locals) (hRcells : cells + 1 ≤ R.cells) (hRslots : slots + 6 ≤ R.slots) (hlocks : meth.locks = false)
    (hx : ∀ t : State, s.vm.Alike t.vm → H.size ≤ t.heap.size → (∀ q : Nat, q < H.size → t.heap[q]? = H[q]?) → XC cls s t)
    (hf : ∀ z ∈ locs, free z.base) (hc : cells + 1 ≤ mc) (hs : slots + 6 ≤ ms) :
    W p l e R s m args below meth c H locs cells slots (vx_MQ below Qc XC args s mc ms free) (F0 m pc ls rest) := by
  intro T hT X
  have htr : e.platform.stackTraces = false := (show e.platform.stackTraces = l.stackTraces by rw [X.admits.platform]).trans hl
  have Y := vx_rebase X (R' := { frames := R.frames, locals := R.locals, cells := 1, slots := 6 }) (Nat.le_refl _) (Nat.le_refl _) hRcells hRslots
  obtain ⟨s', hA⟩ : ∃ z, z = (T.setVm s.vm).setFrames (.invoking m args :: below) := ⟨_, rfl⟩
  rw [← hA] at Y
  have hvm : s'.vm = s.vm := by rw [hA]; rfl
  have hhp : s'.heap = H := by rw [hA]; exact hT
  have hW0 : s.WarmedH s'.vm := by rw [hvm]; exact State.WarmedH.refl s
  have hat' : ∀ w ∈ vx_at0 own ic cls names, w.before args s' = true := fun w hw => vx_ot_at hW0 hvm.symm (hgood w (List.mem_cons_of_mem _ (List.mem_cons_of_mem _ hw))) (hat w hw)
  have hk' : (Cond.classLink own ik cls).before args s' = true := vx_ot_at hW0 hvm.symm (hgood _ List.mem_cons_self) hk
  have hini' : (Cond.initialized cls).before args s' = true := vx_ot_at hW0 hvm.symm (hgood _ (List.mem_cons_of_mem _ List.mem_cons_self)) hini
  have hU' : vx_Zq Bundle.tN "UNASSIGNED_STACK" Bundle.steD A s' s'.heap := by rw [hhp]; exact vx_Zq.moved hW0.alike (hU.kept hS.2.1)
  have hN' : vx_Zq Bundle.tN "SUPPRESSED_SENTINEL" Bundle.listD A s' s'.heap := by rw [hhp]; exact vx_Zq.moved hW0.alike (hN.kept hS.2.1)
  have h : ∀ w ∈ Bundle.ownAtoms0 own ic cls names, w.before args s' = true := vx_own hat' (vx_isRefq hU'.1) (vx_isRefq hN'.1) hU'.2.word hN'.2.word
  have hown' : s'.vm.findClass own = some m.cls := by rw [hvm]; exact hown
  have hins : (Cond.instantiable cls 6).before args s' = true := h _ (by simp [Bundle.ownAtoms0])
  obtain ⟨vm₁, cX, kX, hfX, hkX, -, -, X₁, st1⟩ := Y.newCold hexec (own := own) (C := cls) (index := ik) (n := 6) hown' hk' hins hini'
    (g := F0 m pc ls rest) rfl (by rw [hb]; exact d0) (Nat.le_refl _) (Nat.le_refl _)
  generalize hT1 : (T.setVm vm₁).pushCell { cls := cX, slots := kX.instanceTypes.map defaultValue, vm := .none } = T1 at X₁ st1
  have hcat : (Value.ref T.heap.size).category = 1 := rfl
  have hcellA : T1.heap[T.heap.size]? = some (freshCell cX kX) := by rw [← hT1]; exact State.heap_pushCell_size _ _
  have d3' : decode c.code (pc + 3) = .ok (.dup, 1) := by rw [hb]; exact d3
  obtain ⟨U, hsteps, hrun, hend, hW, hsame, ce, hce, hO⟩ := X₁.ctorThrow0 hexec htr (own := own) (cls := cls) (names := names) (ic := ic) hown' hcls hnames h (fun x hx => nomatch hx) hfX hkX hcellA (by rw [hhp, hT]; exact Nat.le_refl _)
    (g := { method := m, pc := pc + 4, locals := ls, stack := .ref T.heap.size :: .ref T.heap.size :: rest, locked := none }) rfl hsize rfl rfl (rest := rest) rfl
    (by rw [hb]; exact d4) (by rw [hb]; exact d7) hout hRframes (by simp only [List.map_cons, List.sum_cons, hcat]; omega) hlocks
  obtain ⟨f1, f2⟩ := vx_frame hsame
  rw [hhp] at f1 f2
  have hWs : s.WarmedH U.vm := State.WarmedH.trans hW0 hW
  have hcl : s.vm.findClass cls = some ce.cls := by
    have h9 := hO.cls
    rw [hvm] at h9
    exact h9
  have hall : s.sameButNew ({ U with vm := s.vm } : State) locs mc ms := by
    subst hA
    obtain ⟨e1, e2⟩ := hsame
    rw [State.setFrames_setFrames] at e1
    have h2 : (T.setVm s.vm).sameButNew ({ U with vm := s.vm } : State) [] (0 + 1) (0 + 6) := ⟨e1, e2⟩
    have h3 := X.same.trans h2
    rw [List.append_nil] at h3
    exact h3.mono hc hs
  refine ⟨U, ?_, .threw T.heap.size, hrun, hend, Or.inr ⟨T.heap.size, rfl, cls, ce, locs, hx U hWs.alike f1 (fun q hq => f2 q hq (fun z hz => nomatch hz)), hce, hO.vm, hcl, hWs, hall, hf⟩⟩
  refine st1 _ ?_
  show Steps p.tables e below (T1.setTop { method := m, pc := pc + 3, locals := ls, stack := .ref T.heap.size :: rest, locked := none }) _
  jvm_step X₁.here [X₁.here.top, hexec, d3', Value.category]
  exact hsteps
/-- 'throw new E("text")': new; dup; ldc; invokespecial; athrow -/
theorem vx_throwS {cc : ByteArray} {pc : Nat} (hexec : p.tables.exec = Jvm.exec) (hb : c.code = cc) (hl : l.stackTraces = false) {own cls text : String} {names : List String} {ik is ic mc ms sa : Nat} {A : Nat → Prop}
    (hown : s.vm.findClass own = some m.cls) (hcls : Bundle.fit cls = true) (hnames : ∀ n ∈ names, Bundle.fit n = true)
    (hk : (Cond.classLink own ik cls).before args s = true) (hini : (Cond.initialized cls).before args s = true) (hstr : vk_R own is text sa s) (hat : ∀ w ∈ vx_atS own ic cls names, w.before args s = true)
    (hgood : ∀ w ∈ Cond.classLink own ik cls :: Cond.initialized cls :: vx_atS own ic cls names, vx_ot w = true)
    (hU : vx_Zq Bundle.tN "UNASSIGNED_STACK" Bundle.steD A s s.heap) (hN : vx_Zq Bundle.tN "SUPPRESSED_SENTINEL" Bundle.listD A s s.heap) (hS : va_S A s.heap H locs) (hsize : ls.size = c.maxLocals)
    (d0 : decode cc pc = .ok (.new ik, 3)) (d3 : decode cc (pc + 3) = .ok (.dup, 1)) (d4 : decode cc (pc + 4) = .ok (.ldc is, 2)) (d6 : decode cc (pc + 6) = .ok (.invokespecial ic, 3)) (d9 : decode cc (pc + 9) = .ok (.athrow, 1))
    (hout : ∀ x ∈ c.exceptionTable.toList, covers x (pc + 9) = false)
    (hRframes : names.length + 3 < R.frames) (hRlocals : (rest.map fun v => v.category).sum + (13 * (names.length + 1) + 43) ≤ R.locals) (hRcells : cells + 1 ≤ R.cells) (hRslots : slots + 6 ≤ R.slots) (hlocks : meth.locks = false)
    (hx : ∀ t : State, s.vm.Alike t.vm → H.size ≤ t.heap.size → (∀ q : Nat, q < H.size → t.heap[q]? = H[q]?) → XC cls s t)
    (hf : ∀ z ∈ locs, free z.base) (hc : cells + 1 ≤ mc) (hs : slots + 6 ≤ ms) :
    W p l e R s m args below meth c H locs cells slots (vx_MQ below Qc XC args s mc ms free) (F0 m pc ls rest) := by
  intro T hT X
  have htr : e.platform.stackTraces = false := (show e.platform.stackTraces = l.stackTraces by rw [X.admits.platform]).trans hl
  have Y := vx_rebase X (R' := { frames := R.frames, locals := R.locals, cells := 1, slots := 6 }) (Nat.le_refl _) (Nat.le_refl _) hRcells hRslots
  obtain ⟨s', hA⟩ : ∃ z, z = (T.setVm s.vm).setFrames (.invoking m args :: below) := ⟨_, rfl⟩
  rw [← hA] at Y
  have hvm : s'.vm = s.vm := by rw [hA]; rfl
  have hhp : s'.heap = H := by rw [hA]; exact hT
  have hW0 : s.WarmedH s'.vm := by rw [hvm]; exact State.WarmedH.refl s
  have hat' : ∀ w ∈ vx_atS own ic cls names, w.before args s' = true := fun w hw => vx_ot_at hW0 hvm.symm (hgood w (List.mem_cons_of_mem _ (List.mem_cons_of_mem _ hw))) (hat w hw)
  have hk' : (Cond.classLink own ik cls).before args s' = true := vx_ot_at hW0 hvm.symm (hgood _ List.mem_cons_self) hk
  have hini' : (Cond.initialized cls).before args s' = true := vx_ot_at hW0 hvm.symm (hgood _ (List.mem_cons_of_mem _ List.mem_cons_self)) hini
  have hU' : vx_Zq Bundle.tN "UNASSIGNED_STACK" Bundle.steD A s' s'.heap := by rw [hhp]; exact vx_Zq.moved hW0.alike (hU.kept hS.2.1)
  have hN' : vx_Zq Bundle.tN "SUPPRESSED_SENTINEL" Bundle.listD A s' s'.heap := by rw [hhp]; exact vx_Zq.moved hW0.alike (hN.kept hS.2.1)
  have h : ∀ w ∈ Bundle.ownAtoms own ic cls names, w.before args s' = true := vx_own hat' (vx_isRefq hU'.1) (vx_isRefq hN'.1) hU'.2.word hN'.2.word
  have hown' : s'.vm.findClass own = some m.cls := by rw [hvm]; exact hown
  have hins : (Cond.instantiable cls 6).before args s' = true := h _ (by simp [Bundle.ownAtoms])
  obtain ⟨vm₁, cX, kX, hfX, hkX, -, -, X₁, st1⟩ := Y.newCold hexec (own := own) (C := cls) (index := ik) (n := 6) hown' hk' hins hini'
    (g := F0 m pc ls rest) rfl (by rw [hb]; exact d0) (Nat.le_refl _) (Nat.le_refl _)
  generalize hT1 : (T.setVm vm₁).pushCell { cls := cX, slots := kX.instanceTypes.map defaultValue, vm := .none } = T1 at X₁ st1
  have hcat : (Value.ref T.heap.size).category = 1 := rfl
  have hcellA : T1.heap[T.heap.size]? = some (freshCell cX kX) := by rw [← hT1]; exact State.heap_pushCell_size _ _
  have d3' : decode c.code (pc + 3) = .ok (.dup, 1) := by rw [hb]; exact d3
  have d4' : decode c.code (pc + 4) = .ok (.ldc is, 2) := by rw [hb]; exact d4
  have hstr' : vk_R own is text sa s' := vk_R.warm hW0 hstr
  obtain ⟨U, hsteps, hrun, hend, hW, hsame, ce, hce, hO⟩ := X₁.ctorThrowS hexec htr (own := own) (cls := cls) (names := names) (ic := ic) hown' hcls hnames h (fun x hx => nomatch hx) hfX hkX hcellA (by rw [hhp, hT]; exact Nat.le_refl _) (msg := .ref sa) rfl
    (g := { method := m, pc := pc + 6, locals := ls, stack := .ref sa :: .ref T.heap.size :: .ref T.heap.size :: rest, locked := none }) rfl hsize rfl rfl (rest := rest) rfl
    (by rw [hb]; exact d6) (by rw [hb]; exact d9) hout hRframes (by simp only [List.map_cons, List.sum_cons, hcat]; omega) hlocks
  obtain ⟨f1, f2⟩ := vx_frame hsame
  rw [hhp] at f1 f2
  have hWs : s.WarmedH U.vm := State.WarmedH.trans hW0 hW
  have hcl : s.vm.findClass cls = some ce.cls := by
    have h9 := hO.cls
    rw [hvm] at h9
    exact h9
  have hall : s.sameButNew ({ U with vm := s.vm } : State) locs mc ms := by
    subst hA
    obtain ⟨e1, e2⟩ := hsame
    rw [State.setFrames_setFrames] at e1
    have h2 : (T.setVm s.vm).sameButNew ({ U with vm := s.vm } : State) [] (0 + 1) (0 + 6) := ⟨e1, e2⟩
    have h3 := X.same.trans h2
    rw [List.append_nil] at h3
    exact h3.mono hc hs
  refine ⟨U, ?_, .threw T.heap.size, hrun, hend, Or.inr ⟨T.heap.size, rfl, cls, ce, locs, hx U hWs.alike f1 (fun q hq => f2 q hq (fun z hz => nomatch hz)), hce, hO.vm, hcl, hWs, hall, hf⟩⟩
  refine st1 _ ?_
  show Steps p.tables e below (T1.setTop { method := m, pc := pc + 3, locals := ls, stack := .ref T.heap.size :: rest, locked := none }) _
  jvm_step X₁.here [X₁.here.top, hexec, d3', Value.category]
  exact X₁.ldcString hexec (own := own) (text := text) (index := is) (a := sa) hown' hstr'.1 hstr'.2
    (g := { method := m, pc := pc + 4, locals := ls, stack := .ref T.heap.size :: .ref T.heap.size :: rest, locked := none }) rfl d4' _ hsteps
/-- 'throw new E("text")', the text by a wide index -/
theorem vx_throwSW {cc : ByteArray} {pc : Nat} (hexec : p.tables.exec = Jvm.exec) (hb : c.code = cc) (hl : l.stackTraces = false) {own cls text : String} {names : List String} {ik is ic mc ms sa : Nat} {A : Nat → Prop}
    (hown : s.vm.findClass own = some m.cls) (hcls : Bundle.fit cls = true) (hnames : ∀ n ∈ names, Bundle.fit n = true)
    (hk : (Cond.classLink own ik cls).before args s = true) (hini : (Cond.initialized cls).before args s = true) (hstr : vk_R own is text sa s) (hat : ∀ w ∈ vx_atS own ic cls names, w.before args s = true)
    (hgood : ∀ w ∈ Cond.classLink own ik cls :: Cond.initialized cls :: vx_atS own ic cls names, vx_ot w = true)
    (hU : vx_Zq Bundle.tN "UNASSIGNED_STACK" Bundle.steD A s s.heap) (hN : vx_Zq Bundle.tN "SUPPRESSED_SENTINEL" Bundle.listD A s s.heap) (hS : va_S A s.heap H locs) (hsize : ls.size = c.maxLocals)
    (d0 : decode cc pc = .ok (.new ik, 3)) (d3 : decode cc (pc + 3) = .ok (.dup, 1)) (d4 : decode cc (pc + 4) = .ok (.ldc_w is, 3)) (d7 : decode cc (pc + 7) = .ok (.invokespecial ic, 3)) (d10 : decode cc (pc + 10) = .ok (.athrow, 1))
    (hout : ∀ x ∈ c.exceptionTable.toList, covers x (pc + 10) = false)
    (hRframes : names.length + 3 < R.frames) (hRlocals : (rest.map fun v => v.category).sum + (13 * (names.length + 1) + 43) ≤ R.locals) (hRcells : cells + 1 ≤ R.cells) (hRslots : slots + 6 ≤ R.slots) (hlocks : meth.locks = false)
    (hx : ∀ t : State, s.vm.Alike t.vm → H.size ≤ t.heap.size → (∀ q : Nat, q < H.size → t.heap[q]? = H[q]?) → XC cls s t)
    (hf : ∀ z ∈ locs, free z.base) (hc : cells + 1 ≤ mc) (hs : slots + 6 ≤ ms) :
    W p l e R s m args below meth c H locs cells slots (vx_MQ below Qc XC args s mc ms free) (F0 m pc ls rest) := by
  intro T hT X
  have htr : e.platform.stackTraces = false := (show e.platform.stackTraces = l.stackTraces by rw [X.admits.platform]).trans hl
  have Y := vx_rebase X (R' := { frames := R.frames, locals := R.locals, cells := 1, slots := 6 }) (Nat.le_refl _) (Nat.le_refl _) hRcells hRslots
  obtain ⟨s', hA⟩ : ∃ z, z = (T.setVm s.vm).setFrames (.invoking m args :: below) := ⟨_, rfl⟩
  rw [← hA] at Y
  have hvm : s'.vm = s.vm := by rw [hA]; rfl
  have hhp : s'.heap = H := by rw [hA]; exact hT
  have hW0 : s.WarmedH s'.vm := by rw [hvm]; exact State.WarmedH.refl s
  have hat' : ∀ w ∈ vx_atS own ic cls names, w.before args s' = true := fun w hw => vx_ot_at hW0 hvm.symm (hgood w (List.mem_cons_of_mem _ (List.mem_cons_of_mem _ hw))) (hat w hw)
  have hk' : (Cond.classLink own ik cls).before args s' = true := vx_ot_at hW0 hvm.symm (hgood _ List.mem_cons_self) hk
  have hini' : (Cond.initialized cls).before args s' = true := vx_ot_at hW0 hvm.symm (hgood _ (List.mem_cons_of_mem _ List.mem_cons_self)) hini
  have hU' : vx_Zq Bundle.tN "UNASSIGNED_STACK" Bundle.steD A s' s'.heap := by rw [hhp]; exact vx_Zq.moved hW0.alike (hU.kept hS.2.1)
  have hN' : vx_Zq Bundle.tN "SUPPRESSED_SENTINEL" Bundle.listD A s' s'.heap := by rw [hhp]; exact vx_Zq.moved hW0.alike (hN.kept hS.2.1)
  have h : ∀ w ∈ Bundle.ownAtoms own ic cls names, w.before args s' = true := vx_own hat' (vx_isRefq hU'.1) (vx_isRefq hN'.1) hU'.2.word hN'.2.word
  have hown' : s'.vm.findClass own = some m.cls := by rw [hvm]; exact hown
  have hins : (Cond.instantiable cls 6).before args s' = true := h _ (by simp [Bundle.ownAtoms])
  obtain ⟨vm₁, cX, kX, hfX, hkX, -, -, X₁, st1⟩ := Y.newCold hexec (own := own) (C := cls) (index := ik) (n := 6) hown' hk' hins hini'
    (g := F0 m pc ls rest) rfl (by rw [hb]; exact d0) (Nat.le_refl _) (Nat.le_refl _)
  generalize hT1 : (T.setVm vm₁).pushCell { cls := cX, slots := kX.instanceTypes.map defaultValue, vm := .none } = T1 at X₁ st1
  have hcat : (Value.ref T.heap.size).category = 1 := rfl
  have hcellA : T1.heap[T.heap.size]? = some (freshCell cX kX) := by rw [← hT1]; exact State.heap_pushCell_size _ _
  have d3' : decode c.code (pc + 3) = .ok (.dup, 1) := by rw [hb]; exact d3
  have d4' : decode c.code (pc + 4) = .ok (.ldc_w is, 3) := by rw [hb]; exact d4
  have hstr' : vk_R own is text sa s' := vk_R.warm hW0 hstr
  obtain ⟨U, hsteps, hrun, hend, hW, hsame, ce, hce, hO⟩ := X₁.ctorThrowS hexec htr (own := own) (cls := cls) (names := names) (ic := ic) hown' hcls hnames h (fun x hx => nomatch hx) hfX hkX hcellA (by rw [hhp, hT]; exact Nat.le_refl _) (msg := .ref sa) rfl
    (g := { method := m, pc := pc + 7, locals := ls, stack := .ref sa :: .ref T.heap.size :: .ref T.heap.size :: rest, locked := none }) rfl hsize rfl rfl (rest := rest) rfl
    (by rw [hb]; exact d7) (by rw [hb]; exact d10) hout hRframes (by simp only [List.map_cons, List.sum_cons, hcat]; omega) hlocks
  obtain ⟨f1, f2⟩ := vx_frame hsame
  rw [hhp] at f1 f2
  have hWs : s.WarmedH U.vm := State.WarmedH.trans hW0 hW
  have hcl : s.vm.findClass cls = some ce.cls := by
    have h9 := hO.cls
    rw [hvm] at h9
    exact h9
  have hall : s.sameButNew ({ U with vm := s.vm } : State) locs mc ms := by
    subst hA
    obtain ⟨e1, e2⟩ := hsame
    rw [State.setFrames_setFrames] at e1
    have h2 : (T.setVm s.vm).sameButNew ({ U with vm := s.vm } : State) [] (0 + 1) (0 + 6) := ⟨e1, e2⟩
    have h3 := X.same.trans h2
    rw [List.append_nil] at h3
    exact h3.mono hc hs
  refine ⟨U, ?_, .threw T.heap.size, hrun, hend, Or.inr ⟨T.heap.size, rfl, cls, ce, locs, hx U hWs.alike f1 (fun q hq => f2 q hq (fun z hz => nomatch hz)), hce, hO.vm, hcl, hWs, hall, hf⟩⟩
  refine st1 _ ?_
  show Steps p.tables e below (T1.setTop { method := m, pc := pc + 3, locals := ls, stack := .ref T.heap.size :: rest, locked := none }) _
  jvm_step X₁.here [X₁.here.top, hexec, d3', Value.category]
  exact X₁.ldcStringW hexec (own := own) (text := text) (index := is) (a := sa) hown' hstr'.1 hstr'.2
    (g := { method := m, pc := pc + 4, locals := ls, stack := .ref T.heap.size :: .ref T.heap.size :: rest, locked := none }) rfl d4' _ hsteps
end Ends
section Bodies
variable {l : Launch}
theorem vx_ofW {y : MethodName} {ws ws' : List Cond} {rm : Room} {Pc : Array Value → State → Prop} {Qc : Array Value → State → Outcome → State → Prop} {XC : String → State → State → Prop} {mc ms : Nat} {free : Addr → Prop} {cc : ByteArray} {maxL : Nat} {ret : Option FieldType}
    (hy : plainName y.cls = true) (hw : ws = Cond.code y cc maxL ret :: ws')
    (body : ∀ p e s m args below meth c s₁, BodyLoose p l y (headSpec ws rm) cc maxL ret e s m args below meth c s₁ → c.maxLocals = maxL → (∀ x ∈ c.exceptionTable.toList, False) → Pc args s →
      W p l e (headSpec ws rm).room s m args below meth c s.heap [] 0 0 (vx_MQ below Qc XC args s mc ms free) (entryFrame m args maxL)) : vx_Met l y ws rm Pc Qc XC mc ms free := by
  refine MetFree.of_bodyS (code := cc) (maxLocals := maxL) (ret := ret) hy ?_ ?_
  · intro args s m h hn
    obtain ⟨meth, c, h1, h2, h3, h4, h5, h6, -, -⟩ := Cond.code_spec hn (atoms_spec (ws := ws) h _ (by rw [hw]; exact List.mem_cons_self))
    exact ⟨meth, c, h1, h2, h3, h4, h5, h6⟩
  · intro p e s m args below meth c s₁ B hml hP _
    have hh0 : s₁.heap = s.heap := by rw [B.state]; rfl
    have ht : ∀ x ∈ c.exceptionTable.toList, False := by
      obtain ⟨meth9, c9, h1, h2, -, -, -, -, h7, -⟩ := Cond.code_spec B.named (atoms_spec (ws := ws) B.pre _ (by rw [hw]; exact List.mem_cons_self))
      cases Option.some.inj (h1.symm.trans B.method)
      cases Option.some.inj (h2.symm.trans (Stand.of_body B).code)
      intro x hx
      rw [Array.isEmpty_iff.mp h7] at hx
      cases hx
    obtain ⟨t, a1, o, b1, b2, b3⟩ := body p e s m args below meth c s₁ B hml ht hP s₁ hh0 (Stand.of_body B)
    exact ⟨t, o, a1, b1, b2, b3⟩
/-- the table of a body with handlers -/
theorem vx_table {p : Program} {x y : MethodName} {S : Spec} {cc bytes : ByteArray} {maxL maxL' : Nat} {ret ret' : Option FieldType} {e : Env} {s s₁ : State} {m : MethodId} {args : Array Value} {below : List Frame} {meth : Method} {c : Code} {hh : List (Nat × Nat × Nat × Nat)}
    (B : BodyLoose p l y S cc maxL ret e s m args below meth c s₁) (h : (Cond.codeWith y bytes maxL' ret' hh).before args s = true) : c.exceptionTable.toList = tableOf hh := by
  obtain ⟨m9, meth9, c9, hn9, h1, h2, -, -, h6, -⟩ := Cond.codeWith_spec h
  cases Option.some.inj (hn9.symm.trans B.named)
  cases Option.some.inj (h1.symm.trans B.method)
  cases Option.some.inj (h2.symm.trans (Stand.of_body B).code)
  rw [← h6, table_eq]
end Bodies
end VXA
/-! ===== END ===== -/
/-! ===== BEGIN a static call of a method with an exception table ===== -/
section VXS
variable {p : Program} {l : Launch} {e : Env} {R : Room} {s : State} {m : MethodId} {args : Array Value} {below : List Frame} {meth : Method} {c : Code} {T : State} {H : Heap} {locs : List Loc} {cells slots : Nat}
abbrev vx_CSW (R : Room) (s : State) (args : Array Value) (own : String) (index : Nat) (y : MethodName) (bytes : ByteArray) (maxL : Nat) (ret : Option FieldType) (hh : List (Nat × Nat × Nat × Nat)) (ws : List Cond) (rm : Room) (mc ms n : Nat) : Prop :=
  (rm.cells = mc ∧ rm.slots = ms ∧ rm.frames + 1 ≤ R.frames ∧ 8 + (maxL + 11) + rm.locals ≤ R.locals ∧ (∀ w ∈ ws, ∀ (a' : Array Value) (U : State), s.WarmedH U.vm → w.before a' U = true) ∧ Cond.codeWith y bytes maxL ret hh ∈ ws) ∧
  (Cond.codeWith y bytes maxL ret hh).before args s = true ∧ (Cond.initialized y.cls).before args s = true ∧ (y.cls ≠ "java/lang/invoke/MethodHandle" ∧ y.cls ≠ "java/lang/invoke/VarHandle") ∧
  (∀ sig, parseMethodDescriptor y.desc = some sig → n = sig.parameters.length) ∧ (Cond.methodLink own index y).before args s = true ∧ (Cond.static y).before args s = true
theorem vx_cwSW {own : String} {index maxL mc ms : Nat} {y : MethodName} {bytes : ByteArray} {ret : Option FieldType} {hh : List (Nat × Nat × Nat × Nat)} {Ts ws ws' : List Cond} {rm : Room} (n : Nat) (ht : ∀ w ∈ Ts, w.before args s = true) (hT : GoodIn Ts (va_wsS own index y ws)) (hw : ws = Cond.codeWith y bytes maxL ret hh :: ws') (hrc : rm.cells = mc) (hrs : rm.slots = ms)
    (hd : y.cls ≠ "java/lang/invoke/MethodHandle" ∧ y.cls ≠ "java/lang/invoke/VarHandle" ∧ (parseMethodDescriptor y.desc).map (fun d => d.parameters.length) = some n) (hR : rm.frames + 1 ≤ R.frames ∧ 8 + (maxL + 11) + rm.locals ≤ R.locals) :
    vx_CSW R s args own index y bytes maxL ret hh ws rm mc ms n := by
  have ok : ∀ w ∈ va_wsS own index y ws, w.before args s = true := fun w h => ht w (hT w h).1
  have hG : GoodIn Ts ws := fun w h => hT w (by unfold va_wsS; exact List.mem_append_right _ h)
  have hc : Cond.codeWith y bytes maxL ret hh ∈ ws := by rw [hw]; exact List.mem_cons_self
  refine ⟨⟨hrc, hrs, hR.1, hR.2, pay_in ht hG, hc⟩, ht _ (hG _ hc).1, ok _ (by simp [va_wsS]), ⟨hd.1, hd.2.1⟩, fun sig h => ?_, ok _ (by simp [va_wsS]), ok _ (by simp [va_wsS])⟩
  have h2 := hd.2.2
  rw [h] at h2
  exact (Option.some.inj h2).symm
theorem vx_callSW (X : Stand p l e R s m args below meth c T locs cells slots) (hexec : p.tables.exec = Jvm.exec) {own : String} {index : Nat} {y : MethodName} {bytes : ByteArray} {maxL : Nat} {ret : Option FieldType} {hh : List (Nat × Nat × Nat × Nat)}
    (hown : s.vm.findClass own = some m.cls) (hlink : (Cond.methodLink own index y).before args s = true) (hstat : (Cond.static y).before args s = true) (hinit : (Cond.initialized y.cls).before args s = true)
    (hcode : (Cond.codeWith y bytes maxL ret hh).before args s = true) (hy : y.cls ≠ "java/lang/invoke/MethodHandle" ∧ y.cls ≠ "java/lang/invoke/VarHandle")
    {W9 : Nat} {Pre : Pt → Array Value → Prop} {Post : Pt → Array Value → Option Value → Pt → Prop} (hK : Back l R p e below s args y 3 W9 Pre Post)
    {g : JFrame} (hg : g.method = m) (hsize : g.locals.size = c.maxLocals) {argsL rest : List Value} (hlen : ∀ sig, parseMethodDescriptor y.desc = some sig → argsL.length = sig.parameters.length)
    (hstack : g.stack = argsL.reverse ++ rest) (hW : 2 * g.monitorRoom + (rest.map fun v => v.category).sum ≤ W9) (hdg : decode c.code g.pc = .ok (.invokestatic index, 3))
    (hpre : ∀ vm₁, s.WarmedH vm₁ → Pre ⟨T.setVm vm₁, locs, cells, slots⟩ argsL.toArray) :
    ∃ (v : Option Value) (vm₁ : Vm) (B : Pt), s.WarmedH vm₁ ∧ Stand p l e R s m args below meth c B.U B.locs B.cells B.slots ∧ Post ⟨T.setVm vm₁, locs, cells, slots⟩ argsL.toArray v B ∧
      ∀ target, Steps p.tables e below (B.U.setTop { g with pc := g.pc + 3, stack := v.toList ++ rest }) target → Steps p.tables e below (T.setTop g) target := by
  obtain ⟨mk, methM, cM, hnamed, hmethM, -, -, -, -, -, -, hsigM⟩ := Cond.codeWith_spec hcode
  have hstatic : methM.isStatic = true := Cond.static_spec hnamed hmethM hstat
  obtain ⟨kP, hkP, -⟩ := className_of_methodNamed hnamed
  have hinitP : kP.init = .initialized := Cond.initialized_spec (findClass_of_methodNamed hnamed) hkP hinit
  obtain ⟨vm₁, X₁, hstep₁⟩ := X.invokestatic hexec hown hlink hnamed hmethM hstatic hkP hinitP hy (g := g) hg (argsL := argsL) (rest := rest) (hlen _ hsigM) hstack hdg
  obtain ⟨v, B, X', hpost, hsteps⟩ := hK m meth c ⟨T.setVm vm₁, locs, cells, slots⟩ { g with stack := rest } (.invokestatic index) mk argsL.toArray X₁ hg hsize hdg hW (X₁.named hnamed) (hpre vm₁ X₁.warmed)
  exact ⟨v, vm₁, B, X₁.warmed, X', hpost, fun target h => hstep₁ _ fun acts => by rw [doInvoke_state]; exact hsteps.trans h⟩
theorem vx_runSW {y : MethodName} {bytes cc : ByteArray} {maxL nL mc ms n index : Nat} {ret : Option FieldType} {hh : List (Nat × Nat × Nat × Nat)} {ws : List Cond} {rm : Room} {Pc : Array Value → State → Prop} {Qc : Array Value → State → Outcome → State → Prop} {free : Addr → Prop} {Ts : List Cond} {own : String} {As rest : List Value} {g : JFrame}
    (S : CallFix p m c cc nL s args Ts own) (hM : Met l y ws rm Pc Qc mc ms free) (cw : vx_CSW R s args own index y bytes maxL ret hh ws rm mc ms n) (hp : PreS s H Pc As)
    (hg : g.method = m) (hn : As.length = n) (hsize : g.locals.size = nL) (hstack : g.stack = As.reverse ++ rest) (hW : 2 * g.monitorRoom + (rest.map fun v => v.category).sum ≤ 8) (hdg : decode cc g.pc = .ok (.invokestatic index, 3)) (hf : cells + mc ≤ R.cells ∧ slots + ms ≤ R.slots) :
    va_Run p l e R s m args below meth c H locs cells slots mc ms g rest (Qc As.toArray) (free) := by
  obtain ⟨⟨hrc, hrs, hfr, hlo, hws, hcw⟩, hcode, hini, hy, hlen, hl, hstt⟩ := cw
  have hK : Back l R p e below s args y 3 8 (PreOf R mc ms Pc) (PostOf Qc mc ms free) := va_backW (hh := hh) (bytes := bytes) (maxL := maxL) (ret := ret) hM hp.1 hrc hrs hfr hlo hws hcw (fun a' U hW => word_at hW (Or.inl (by first | rfl | simp [Cond.onTables, Cond.keeps, Cond.steady])) hini)
  obtain ⟨hx, hb, hml, ho, -⟩ := S
  intro T hT X
  obtain ⟨v, vm₁, ⟨U', l2, c2, s2⟩, hW₁, X', ⟨g', mk, t, L, e1, e2, hq, h1, hL, h2, h3⟩, st⟩ := vx_callSW X hx (hh := hh) (bytes := bytes) (maxL := maxL) (ret := ret) ho hl hstt hini hcode hy hK hg (hsize.trans hml.symm) (argsL := As) (rest := rest) (fun sig h => hn.trans (hlen sig h)) hstack hW (by rw [hb]; exact hdg)
    (fun vm₁ hW₁ => ⟨hf.1, hf.2, hp.2 (T.setVm vm₁) hT hW₁⟩)
  dsimp only [Pt.U, Pt.locs, Pt.cells, Pt.slots] at X' e1 e2 h1 h2 h3 st
  subst h1; subst h2; subst h3
  exact ⟨v, (T.setVm vm₁).calling g' mk As.toArray, t, U', L, hT, X', hL, e1, e2, hq, st⟩
/-- not caught here, past rows that name other classes: it goes on to the caller -/
theorem vx_outP {p : Program} {l : Launch} {e : Env} {R : Room} {s : State} {m : MethodId} {args : Array Value} {below : List Frame} {meth : Method} {c : Code} {H : Heap} {locs : List Loc} {cells slots : Nat} {free : Addr → Prop} {ls : Array Slot} {rest : List Value} {Qc : Array Value → State → Outcome → State → Prop} {XC : String → State → State → Prop}
    {pc : Nat} {own E : String} {ce : Cell} {q : Addr} {mc ms : Nat} (hown : s.vm.findClass own = some m.cls) (hlocks : meth.locks = false)
    (hpass : ∀ z ∈ c.exceptionTable.toList, covers z pc = false ∨ (z.catchType ≠ 0 ∧ ∃ nm : String, (Cond.classLink own z.catchType nm).before args s = true ∧ va_Nc E nm s)) (hcell : H[q]? = some ce) (hv : ce.vm = .none) (hcl : s.vm.findClass E = some ce.cls)
    (hx : ∀ t : State, t.heap = H → s.vm.Alike t.vm → XC E s t) (hf : ∀ z ∈ locs, free z.base) (hc : cells ≤ mc) (hs : slots ≤ ms) :
    vx_W p l e R s m args below meth c H locs cells slots (vx_MQ below Qc XC args s mc ms free) (F0 m pc ls rest) q := by
  intro T hT X
  have hpl : e.platform.magicAccessors = ({} : Platform).magicAccessors := by rw [X.admits.platform]
  obtain ⟨vm', hW', X', st⟩ := X.outThrough hlocks q (g := F0 m pc ls rest) rfl rfl rfl (cell := ce) (by rw [hT]; exact hcell) (by rw [hv]; rfl)
    (by obtain ⟨k9, h9, -⟩ := Vm.findClass_spec hcl; exact ⟨k9, h9⟩) (fun z hz => by
      rcases hpass z hz with h | ⟨hz0, nm, hl1, hn1⟩
      · exact Or.inl h
      · obtain ⟨c6, hc6, hcl6⟩ := Cond.classLink_spec hown hl1 e.platform hpl
        obtain ⟨a8, b8, h1, h2, h3⟩ := hn1
        cases Option.some.inj (h1.symm.trans hcl)
        cases Option.some.inj (h2.symm.trans hc6)
        exact Or.inr ⟨hz0, _, hcl6, h3⟩)
  obtain ⟨g₀, hfr⟩ := X'.frames_eq
  have hcell9 : ((T.setVm vm').setFrames (.throwing q :: below)).heap[q]? = some ce := by
    show T.heap[q]? = some ce
    rw [hT]; exact hcell
  have hend : Ended ((T.setVm vm').setFrames (.throwing q :: below)) below (.threw q) := State.frames_setFrames _ (State.cur_lt_of_frames hfr)
  refine ⟨(T.setVm vm').setFrames (.throwing q :: below), ?_, .threw q, X'.here.running, hend, Or.inr ⟨q, rfl, E, ce, locs, hx _ hT (X'.ends _).1.alike, hcell9, hv, hcl, (X'.ends _).1, (X'.ends _).2.mono hc hs, hf⟩⟩
  rw [X.pushThrowing_eq]
  exact st
/-- a thing of a world lies in the heap -/
theorem vx_lt {D : va_G} {cl : List vw_C} {ws : va_W} {H1 : Heap} (h : va_P D cl ws H1) {k : Nat} {q : Nat × va_E} (hk : ws[k]? = some q) : q.1 < H1.size := (h k q hk).lt
end VXS
/-! ===== END ===== -/
/-! ===== BEGIN methods with a table of their own: called by a name, returning or throwing ===== -/
section VXH
/-! vx_backW, vx_callVX, vx_callSX, vx_callVW, vx_runVW, vx_runVX, vx_runSX, vx_ofWH follow the same proofs as their sisters above (Free/Laws.lean, Shelf42/LK1.lean); vx_outP calls Shelf42/NT130.lean (outThrough). -/
section
variable {l : Launch} {R : Room} {p : Program} {e : Env} {below : List Frame} {s : State} {sargs : Array Value} {y : MethodName} {len W9 : Nat}
theorem vx_backW {ws : List Cond} {rm : Room} {Pc : Array Value → State → Prop} {Qc : Array Value → State → Outcome → State → Prop} {XC : String → State → State → Prop} {mc ms : Nat} {free : Addr → Prop} {bytes : ByteArray} {maxL : Nat} {ret : Option FieldType} {hh : List (Nat × Nat × Nat × Nat)}
    (hM : vx_Met l y ws rm Pc Qc XC mc ms free) (hblind : FrameBlind Pc) (hrc : rm.cells = mc) (hrs : rm.slots = ms)
    (hframes : rm.frames + 1 ≤ R.frames) (hlocals : W9 + (maxL + 11) + rm.locals ≤ R.locals)
    (hws : ∀ w ∈ ws, ∀ a' U, s.WarmedH U.vm → w.before a' U = true) (hcode : Cond.codeWith y bytes maxL ret hh ∈ ws) (hinit : ∀ a' U, s.WarmedH U.vm → (Cond.initialized y.cls).before a' U = true) :
    vx_Back l R p e below s sargs y len W9 (PreOf R mc ms Pc) (PostOf Qc mc ms free) (vx_Post XC mc ms free) := by
  intro m meth c A g ig mk a X hg hsize hdg hW hn hp
  have h1 : (headSpec ws rm).pre.before a A.U = true := atoms_intro fun w hw => hws w hw _ _ X.warmed
  have h2 : (Cond.codeWith y bytes maxL ret hh).before a A.U = true := hws _ hcode _ _ X.warmed
  have h3 : (Cond.initialized y.cls).before a A.U = true := hinit _ _ X.warmed
  have h4 : A.cells + (headSpec ws rm).room.cells ≤ R.cells := by rw [show (headSpec ws rm).room.cells = mc from hrc]; exact hp.1
  have h5 : A.slots + (headSpec ws rm).room.slots ≤ R.slots := by rw [show (headSpec ws rm).room.slots = ms from hrs]; exact hp.2.1
  have hPc : Pc a (A.U.calling g mk a) := hblind _ _ _ _ hp.2.2
  obtain ⟨U, Ls, c0, s0⟩ := A
  dsimp only [Pt.U, Pt.locs, Pt.cells, Pt.slots] at h1 h2 h3 h4 h5 X hn hPc ⊢
  obtain ⟨m9, methY, cY, hn9, hmY, hcY, -, hlY, -⟩ := Cond.codeWith_spec h2
  cases Option.some.inj (hn9.symm.trans hn)
  obtain ⟨kY, hkY, -⟩ := className_of_methodNamed hn
  have hinitY : kY.init = .initialized := Cond.initialized_spec (findClass_of_methodNamed hn) hkY h3
  have h : At U g.method c below := by rw [hg]; exact X.here
  have hlocals9 : W9 + (maxL + 11) + (headSpec ws rm).room.locals ≤ R.locals := hlocals
  have happ : (headSpec ws rm).appliesLoose y e.platform (U.calling g mk a) = true :=
    Spec.appliesLoose_calling (g := g) h hdg hn hkY hinitY
      (X.room_calling (g := g) (R' := (headSpec ws rm).room) hsize hmY hcY hframes (by rw [hlY]; omega) h4 h5) h1
  obtain ⟨mid, hmid⟩ := h.above
  have hfr : (U.setTop g).frames = (.java g :: mid) ++ below := by rw [State.frames_setTop' g h.top, hmid]; rfl
  obtain ⟨o, s₂, hsteps, -, hend, hq⟩ := Steps.callFree hM p X.admits X.cas X.clock (acts := []) hfr happ hPc trivial
  have hq' : vx_Q Qc XC mc ms free a (U.calling g mk a) o s₂ := hq
  rw [State.frames_setTop' g h.top] at hend
  obtain ⟨g₀, hg0⟩ := Option.isSome_iff_exists.mp h.top
  obtain ⟨r, hr⟩ := State.topJava?_eq_some.mp hg0
  have hr' : (({ U with heap := s₂.heap, slotsUsed := s₂.slotsUsed } : State).setVm s₂.vm).frames = .java g₀ :: r := hr
  rcases hq' with ⟨hqc, L, hfe, hL⟩ | ⟨q, rfl, E, ce, L, hx, hce, hcv, hcl, hW₂, hsm, hL⟩
  · obtain ⟨⟨v, rfl⟩, hW₂, e2, q2, q3, q4, q5, q6⟩ := id hfe
    have e3 : s₂ = ({ (U.calling g mk a).setFrames s₂.frames with heap := s₂.heap, slotsUsed := s₂.slotsUsed } : State).setVm s₂.vm := by
      have : s₂ = ({ s₂ with vm := (U.calling g mk a).vm } : State).setVm s₂.vm := rfl
      rw [e2] at this
      exact this
    obtain ⟨c₂, i₂, len₂, hc₂, hd₂, hf₂⟩ := hend
    have hW' : U.WarmedH s₂.vm := hW₂
    have hcc : c₂ = c := by
      have h1 : s₂.code? g.method = U.code? g.method := by
        rw [State.code?_eq, State.code?_eq, hW'.alike.method?]
      exact Option.some.inj (hc₂.symm.trans (h1.trans h.code))
    subst hcc
    have hlen : len₂ = len := by rw [hdg] at hd₂; cases hd₂; rfl
    subst hlen
    have hs₂ : s₂ = (({ U with heap := s₂.heap, slotsUsed := s₂.slotsUsed } : State).setVm s₂.vm).setTop { g with pc := g.pc + len₂, stack := v.toList ++ g.stack } := by
      refine e3.trans ?_
      rw [hf₂, State.calling_eq h.top, State.setFrames_setFrames, State.setTop_of_frames _ hr', hr]
      rfl
    have hsame : U.sameButNew ({ U with heap := s₂.heap, slotsUsed := s₂.slotsUsed } : State) L mc ms := by
      refine ⟨?_, q2, q3, q4, q5, q6⟩
      obtain ⟨t, ht, -⟩ := State.frames_cons hr
      show ({ U with heap := s₂.heap, slotsUsed := s₂.slotsUsed } : State) = { U.setFrames U.frames with heap := s₂.heap, slotsUsed := s₂.slotsUsed }
      rw [State.setFrames_self ht]
    subst hg
    refine Or.inl ⟨v, ⟨(({ U with heap := s₂.heap, slotsUsed := s₂.slotsUsed } : State).setVm s₂.vm), Ls ++ L, c0 + mc, s0 + ms⟩,
      ⟨X.admits, X.cas, X.clock, X.frames, X.room, X.hears, X.method, X.code, (X.here.setHeapUsed s₂.heap s₂.slotsUsed).setVm hW'.alike, X.tail, State.WarmedH.trans X.warmed hW', X.limits, X.bytes, X.same.trans (hsame.setVm s.vm)⟩,
      ⟨g, mk, s₂, L, rfl, rfl, hqc, rfl, hL, rfl, rfl⟩, ?_⟩
    show Steps p.tables e below _ ((({ U with heap := s₂.heap, slotsUsed := s₂.slotsUsed } : State).setVm s₂.vm).setTop { g with pc := g.pc + len₂, stack := v.toList ++ g.stack })
    rw [← hs₂]
    exact hsteps
  · obtain ⟨e2, q2, q3, q4, q5, q6⟩ := id hsm
    have e3 : s₂ = ({ (U.calling g mk a).setFrames s₂.frames with heap := s₂.heap, slotsUsed := s₂.slotsUsed } : State).setVm s₂.vm := by
      have : s₂ = ({ s₂ with vm := (U.calling g mk a).vm } : State).setVm s₂.vm := rfl
      rw [e2] at this
      exact this
    have hf₂ : s₂.frames = .throwing q :: .java g :: U.frames.tail := hend
    have hW' : U.WarmedH s₂.vm := hW₂
    have hs₂ : s₂ = ((({ U with heap := s₂.heap, slotsUsed := s₂.slotsUsed } : State).setVm s₂.vm).setTop g).pushFrame (.throwing q) := by
      refine e3.trans ?_
      rw [hf₂, State.calling_eq h.top, State.setFrames_setFrames, State.pushFrame, State.frames_setTop _ hr', State.setTop_of_frames _ hr', State.setFrames_setFrames, hr]
      rfl
    have hsame : U.sameButNew ({ U with heap := s₂.heap, slotsUsed := s₂.slotsUsed } : State) L mc ms := by
      refine ⟨?_, q2, q3, q4, q5, q6⟩
      obtain ⟨t, ht, -⟩ := State.frames_cons hr
      show ({ U with heap := s₂.heap, slotsUsed := s₂.slotsUsed } : State) = { U.setFrames U.frames with heap := s₂.heap, slotsUsed := s₂.slotsUsed }
      rw [State.setFrames_self ht]
    subst hg
    refine Or.inr ⟨q, ⟨(({ U with heap := s₂.heap, slotsUsed := s₂.slotsUsed } : State).setVm s₂.vm), Ls ++ L, c0 + mc, s0 + ms⟩,
      ⟨X.admits, X.cas, X.clock, X.frames, X.room, X.hears, X.method, X.code, (X.here.setHeapUsed s₂.heap s₂.slotsUsed).setVm hW'.alike, X.tail, State.WarmedH.trans X.warmed hW', X.limits, X.bytes, X.same.trans (hsame.setVm s.vm)⟩,
      ⟨g, mk, s₂, L, E, ce, rfl, rfl, hx, hce, hcv, hcl, rfl, hL, rfl, rfl⟩, ?_⟩
    show Steps p.tables e below _ (((({ U with heap := s₂.heap, slotsUsed := s₂.slotsUsed } : State).setVm s₂.vm).setTop g).pushFrame (.throwing q))
    rw [← hs₂]
    exact hsteps
end
variable {p : Program} {l : Launch} {e : Env} {R : Room} {s : State} {m : MethodId} {args : Array Value} {below : List Frame} {meth : Method} {c : Code} {T : State} {H : Heap} {locs : List Loc} {cells slots : Nat}
theorem vx_callVX (X : Stand p l e R s m args below meth c T locs cells slots) (hexec : p.tables.exec = Jvm.exec) {own C : String} {index : Nat} {y : MethodName} {bytes : ByteArray} {maxL : Nat} {ret : Option FieldType} {hh : List (Nat × Nat × Nat × Nat)}
    (hown : s.vm.findClass own = some m.cls) (hlink : (Cond.methodLink own index y).before args s = true) (hinst : (Cond.instanceMethod y).before args s = true) (hsel : (Cond.selects C y y).before args s = true)
    (hcode : (Cond.codeWith y bytes maxL ret hh).before args s = true) (hy : y.cls ≠ "java/lang/invoke/MethodHandle" ∧ y.cls ≠ "java/lang/invoke/VarHandle")
    {W9 : Nat} {Pre : Pt → Array Value → Prop} {Post : Pt → Array Value → Option Value → Pt → Prop} {PostX : Pt → Array Value → Addr → Pt → Prop} (hK : vx_Back l R p e below s args y 3 W9 Pre Post PostX)
    {b : Addr} {cellB : Cell} (hcell : T.heap[b]? = some cellB) (hobj : cellB.vm.isStatics = false) (hcls : s.vm.findClass C = some cellB.cls)
    {g : JFrame} (hg : g.method = m) (hsize : g.locals.size = c.maxLocals) {argsL rest : List Value} (hlen : ∀ sig, parseMethodDescriptor y.desc = some sig → argsL.length = sig.parameters.length)
    (hstack : g.stack = argsL.reverse ++ .ref b :: rest) (hW : 2 * g.monitorRoom + (rest.map fun v => v.category).sum ≤ W9) (hdg : decode c.code g.pc = .ok (.invokevirtual index, 3))
    (hpre : ∀ vm₁, s.WarmedH vm₁ → Pre ⟨T.setVm vm₁, locs, cells, slots⟩ (Value.ref b :: argsL).toArray) :
    (∃ (v : Option Value) (vm₁ : Vm) (B : Pt), s.WarmedH vm₁ ∧ Stand p l e R s m args below meth c B.U B.locs B.cells B.slots ∧ Post ⟨T.setVm vm₁, locs, cells, slots⟩ (Value.ref b :: argsL).toArray v B ∧
      ∀ target, Steps p.tables e below (B.U.setTop { g with pc := g.pc + 3, stack := v.toList ++ rest }) target → Steps p.tables e below (T.setTop g) target) ∨
    (∃ (q : Addr) (vm₁ : Vm) (B : Pt), s.WarmedH vm₁ ∧ Stand p l e R s m args below meth c B.U B.locs B.cells B.slots ∧ PostX ⟨T.setVm vm₁, locs, cells, slots⟩ (Value.ref b :: argsL).toArray q B ∧
      Steps p.tables e below (T.setTop g) ((B.U.setTop { g with stack := rest }).pushFrame (.throwing q))) := by
  obtain ⟨mk, methM, hnamed, hmethM, hstM, habM⟩ := Cond.instanceMethod_spec hinst
  obtain ⟨m8, methM', cM, hn8, hmethM', -, -, -, -, -, -, hsigM⟩ := Cond.codeWith_spec hcode
  cases Option.some.inj (hn8.symm.trans hnamed)
  cases hmethM.symm.trans hmethM'
  obtain ⟨c2, r2, m2, q1, q2, q3, q4, kP, hkP, hkPi⟩ := Cond.selects_spec hsel
  cases hcls.symm.trans q1
  cases (State.methodFound?_of_named hnamed hy).symm.trans q2
  cases hnamed.symm.trans q3
  have hselP : selectMethod e.platform s.vm cellB.cls mk = .method mk := by rw [Launch.admits_selectMethod X.admits]; exact q4
  obtain ⟨vm₁, X₁, hstep₁⟩ := X.invokevirtual hexec hown hlink hnamed hmethM hstM hkP hkPi hy (a := b) (cell := cellB) hcell
    (fun z h => by rw [h] at hobj; cases hobj) hselP hmethM habM hkP hkPi (g := g) hg (argsL := argsL) (rest := rest) (hlen _ hsigM) hstack hdg
  rcases hK m meth c ⟨T.setVm vm₁, locs, cells, slots⟩ { g with stack := rest } (.invokevirtual index) mk (Value.ref b :: argsL).toArray X₁ hg hsize hdg hW (X₁.named hnamed) (hpre vm₁ X₁.warmed) with ⟨v, B, X', hpost, hsteps⟩ | ⟨q, B, X', hpost, hsteps⟩
  · exact Or.inl ⟨v, vm₁, B, X₁.warmed, X', hpost, fun target h => hstep₁ _ fun acts => by rw [doInvoke_state]; exact hsteps.trans h⟩
  · exact Or.inr ⟨q, vm₁, B, X₁.warmed, X', hpost, hstep₁ _ fun acts => by rw [doInvoke_state]; exact hsteps⟩
theorem vx_callSX (X : Stand p l e R s m args below meth c T locs cells slots) (hexec : p.tables.exec = Jvm.exec) {own : String} {index : Nat} {y : MethodName} {bytes : ByteArray} {maxL : Nat} {ret : Option FieldType} {hh : List (Nat × Nat × Nat × Nat)}
    (hown : s.vm.findClass own = some m.cls) (hlink : (Cond.methodLink own index y).before args s = true) (hstat : (Cond.static y).before args s = true) (hinit : (Cond.initialized y.cls).before args s = true)
    (hcode : (Cond.codeWith y bytes maxL ret hh).before args s = true) (hy : y.cls ≠ "java/lang/invoke/MethodHandle" ∧ y.cls ≠ "java/lang/invoke/VarHandle")
    {W9 : Nat} {Pre : Pt → Array Value → Prop} {Post : Pt → Array Value → Option Value → Pt → Prop} {PostX : Pt → Array Value → Addr → Pt → Prop} (hK : vx_Back l R p e below s args y 3 W9 Pre Post PostX)
    {g : JFrame} (hg : g.method = m) (hsize : g.locals.size = c.maxLocals) {argsL rest : List Value} (hlen : ∀ sig, parseMethodDescriptor y.desc = some sig → argsL.length = sig.parameters.length)
    (hstack : g.stack = argsL.reverse ++ rest) (hW : 2 * g.monitorRoom + (rest.map fun v => v.category).sum ≤ W9) (hdg : decode c.code g.pc = .ok (.invokestatic index, 3))
    (hpre : ∀ vm₁, s.WarmedH vm₁ → Pre ⟨T.setVm vm₁, locs, cells, slots⟩ argsL.toArray) :
    (∃ (v : Option Value) (vm₁ : Vm) (B : Pt), s.WarmedH vm₁ ∧ Stand p l e R s m args below meth c B.U B.locs B.cells B.slots ∧ Post ⟨T.setVm vm₁, locs, cells, slots⟩ argsL.toArray v B ∧
      ∀ target, Steps p.tables e below (B.U.setTop { g with pc := g.pc + 3, stack := v.toList ++ rest }) target → Steps p.tables e below (T.setTop g) target) ∨
    (∃ (q : Addr) (vm₁ : Vm) (B : Pt), s.WarmedH vm₁ ∧ Stand p l e R s m args below meth c B.U B.locs B.cells B.slots ∧ PostX ⟨T.setVm vm₁, locs, cells, slots⟩ argsL.toArray q B ∧
      Steps p.tables e below (T.setTop g) ((B.U.setTop { g with stack := rest }).pushFrame (.throwing q))) := by
  obtain ⟨mk, methM, cM, hnamed, hmethM, -, -, -, -, -, -, hsigM⟩ := Cond.codeWith_spec hcode
  have hstatic : methM.isStatic = true := Cond.static_spec hnamed hmethM hstat
  obtain ⟨kP, hkP, -⟩ := className_of_methodNamed hnamed
  have hinitP : kP.init = .initialized := Cond.initialized_spec (findClass_of_methodNamed hnamed) hkP hinit
  obtain ⟨vm₁, X₁, hstep₁⟩ := X.invokestatic hexec hown hlink hnamed hmethM hstatic hkP hinitP hy (g := g) hg (argsL := argsL) (rest := rest) (hlen _ hsigM) hstack hdg
  rcases hK m meth c ⟨T.setVm vm₁, locs, cells, slots⟩ { g with stack := rest } (.invokestatic index) mk argsL.toArray X₁ hg hsize hdg hW (X₁.named hnamed) (hpre vm₁ X₁.warmed) with ⟨v, B, X', hpost, hsteps⟩ | ⟨q, B, X', hpost, hsteps⟩
  · exact Or.inl ⟨v, vm₁, B, X₁.warmed, X', hpost, fun target h => hstep₁ _ fun acts => by rw [doInvoke_state]; exact hsteps.trans h⟩
  · exact Or.inr ⟨q, vm₁, B, X₁.warmed, X', hpost, hstep₁ _ fun acts => by rw [doInvoke_state]; exact hsteps⟩
theorem vx_callVW (X : Stand p l e R s m args below meth c T locs cells slots) (hexec : p.tables.exec = Jvm.exec) {own C : String} {index : Nat} {y : MethodName} {bytes : ByteArray} {maxL : Nat} {ret : Option FieldType} {hh : List (Nat × Nat × Nat × Nat)}
    (hown : s.vm.findClass own = some m.cls) (hlink : (Cond.methodLink own index y).before args s = true) (hinst : (Cond.instanceMethod y).before args s = true) (hsel : (Cond.selects C y y).before args s = true)
    (hcode : (Cond.codeWith y bytes maxL ret hh).before args s = true) (hy : y.cls ≠ "java/lang/invoke/MethodHandle" ∧ y.cls ≠ "java/lang/invoke/VarHandle")
    {W9 : Nat} {Pre : Pt → Array Value → Prop} {Post : Pt → Array Value → Option Value → Pt → Prop} (hK : Back l R p e below s args y 3 W9 Pre Post)
    {b : Addr} {cellB : Cell} (hcell : T.heap[b]? = some cellB) (hobj : cellB.vm.isStatics = false) (hcls : s.vm.findClass C = some cellB.cls)
    {g : JFrame} (hg : g.method = m) (hsize : g.locals.size = c.maxLocals) {argsL rest : List Value} (hlen : ∀ sig, parseMethodDescriptor y.desc = some sig → argsL.length = sig.parameters.length)
    (hstack : g.stack = argsL.reverse ++ .ref b :: rest) (hW : 2 * g.monitorRoom + (rest.map fun v => v.category).sum ≤ W9) (hdg : decode c.code g.pc = .ok (.invokevirtual index, 3))
    (hpre : ∀ vm₁, s.WarmedH vm₁ → Pre ⟨T.setVm vm₁, locs, cells, slots⟩ (Value.ref b :: argsL).toArray) :
    ∃ (v : Option Value) (vm₁ : Vm) (B : Pt), s.WarmedH vm₁ ∧ Stand p l e R s m args below meth c B.U B.locs B.cells B.slots ∧ Post ⟨T.setVm vm₁, locs, cells, slots⟩ (Value.ref b :: argsL).toArray v B ∧
      ∀ target, Steps p.tables e below (B.U.setTop { g with pc := g.pc + 3, stack := v.toList ++ rest }) target → Steps p.tables e below (T.setTop g) target := by
  obtain ⟨mk, methM, hnamed, hmethM, hstM, habM⟩ := Cond.instanceMethod_spec hinst
  obtain ⟨m8, methM', cM, hn8, hmethM', -, -, -, -, -, -, hsigM⟩ := Cond.codeWith_spec hcode
  cases Option.some.inj (hn8.symm.trans hnamed)
  cases hmethM.symm.trans hmethM'
  obtain ⟨c2, r2, m2, q1, q2, q3, q4, kP, hkP, hkPi⟩ := Cond.selects_spec hsel
  cases hcls.symm.trans q1
  cases (State.methodFound?_of_named hnamed hy).symm.trans q2
  cases hnamed.symm.trans q3
  have hselP : selectMethod e.platform s.vm cellB.cls mk = .method mk := by rw [Launch.admits_selectMethod X.admits]; exact q4
  obtain ⟨vm₁, X₁, hstep₁⟩ := X.invokevirtual hexec hown hlink hnamed hmethM hstM hkP hkPi hy (a := b) (cell := cellB) hcell
    (fun z h => by rw [h] at hobj; cases hobj) hselP hmethM habM hkP hkPi (g := g) hg (argsL := argsL) (rest := rest) (hlen _ hsigM) hstack hdg
  obtain ⟨v, B, X', hpost, hsteps⟩ := hK m meth c ⟨T.setVm vm₁, locs, cells, slots⟩ { g with stack := rest } (.invokevirtual index) mk (Value.ref b :: argsL).toArray X₁ hg hsize hdg hW (X₁.named hnamed) (hpre vm₁ X₁.warmed)
  exact ⟨v, vm₁, B, X₁.warmed, X', hpost, fun target h => hstep₁ _ fun acts => by rw [doInvoke_state]; exact hsteps.trans h⟩
abbrev vx_CVW (R : Room) (s : State) (args : Array Value) (own C : String) (index : Nat) (y : MethodName) (bytes : ByteArray) (maxL : Nat) (ret : Option FieldType) (hh : List (Nat × Nat × Nat × Nat)) (ws : List Cond) (rm : Room) (mc ms n : Nat) : Prop :=
  (rm.cells = mc ∧ rm.slots = ms ∧ rm.frames + 1 ≤ R.frames ∧ 8 + (maxL + 11) + rm.locals ≤ R.locals ∧ (∀ w ∈ ws, ∀ (a' : Array Value) (U : State), s.WarmedH U.vm → w.before a' U = true) ∧ Cond.codeWith y bytes maxL ret hh ∈ ws) ∧
  (Cond.codeWith y bytes maxL ret hh).before args s = true ∧ (Cond.initialized y.cls).before args s = true ∧ (y.cls ≠ "java/lang/invoke/MethodHandle" ∧ y.cls ≠ "java/lang/invoke/VarHandle") ∧
  (∀ sig, parseMethodDescriptor y.desc = some sig → n = sig.parameters.length) ∧ (Cond.methodLink own index y).before args s = true ∧ (Cond.instanceMethod y).before args s = true ∧ (Cond.selects C y y).before args s = true
theorem vx_cwVW {own C : String} {index maxL mc ms : Nat} {y : MethodName} {bytes : ByteArray} {ret : Option FieldType} {hh : List (Nat × Nat × Nat × Nat)} {Ts ws ws' : List Cond} {rm : Room} (n : Nat) (ht : ∀ w ∈ Ts, w.before args s = true) (hT : GoodIn Ts (wsV own index C y ws)) (hw : ws = Cond.codeWith y bytes maxL ret hh :: ws') (hrc : rm.cells = mc) (hrs : rm.slots = ms)
    (hd : y.cls = C ∧ y.cls ≠ "java/lang/invoke/MethodHandle" ∧ y.cls ≠ "java/lang/invoke/VarHandle" ∧ (parseMethodDescriptor y.desc).map (fun d => d.parameters.length) = some n) (hR : rm.frames + 1 ≤ R.frames ∧ 8 + (maxL + 11) + rm.locals ≤ R.locals) :
    vx_CVW R s args own C index y bytes maxL ret hh ws rm mc ms n := by
  obtain ⟨hC, hd⟩ := hd
  subst hC
  have ok : ∀ w ∈ wsV own index y.cls y ws, w.before args s = true := fun w h => ht w (hT w h).1
  have hG : GoodIn Ts ws := fun w h => hT w (by unfold wsV; exact List.mem_append_right _ h)
  have hc : Cond.codeWith y bytes maxL ret hh ∈ ws := by rw [hw]; exact List.mem_cons_self
  refine ⟨⟨hrc, hrs, hR.1, hR.2, pay_in ht hG, hc⟩, ht _ (hG _ hc).1, ok _ (by simp [wsV]), ⟨hd.1, hd.2.1⟩, fun sig h => ?_, ok _ (by simp [wsV]), ok _ (by simp [wsV]), ok _ (by simp [wsV])⟩
  have h2 := hd.2.2
  rw [h] at h2
  exact (Option.some.inj h2).symm
theorem vx_runVW {y : MethodName} {bytes cc : ByteArray} {maxL nL mc ms n index : Nat} {ret : Option FieldType} {hh : List (Nat × Nat × Nat × Nat)} {ws : List Cond} {rm : Room} {Pc : Array Value → State → Prop} {Qc : Array Value → State → Outcome → State → Prop} {free : Addr → Prop} {Ts : List Cond} {own C : String} {b : Addr} {As rest : List Value} {g : JFrame}
    (S : CallFix p m c cc nL s args Ts own) (hM : Met l y ws rm Pc Qc mc ms free) (cw : vx_CVW R s args own C index y bytes maxL ret hh ws rm mc ms n) (hp : PreV s H C b Pc As)
    (hg : g.method = m) (hn : As.length = n) (hsize : g.locals.size = nL) (hstack : g.stack = As.reverse ++ .ref b :: rest) (hW : 2 * g.monitorRoom + (rest.map fun v => v.category).sum ≤ 8) (hdg : decode cc g.pc = .ok (.invokevirtual index, 3)) (hf : cells + mc ≤ R.cells ∧ slots + ms ≤ R.slots) :
    va_Run p l e R s m args below meth c H locs cells slots mc ms g rest (Qc (Value.ref b :: As).toArray) free := by
  obtain ⟨⟨hrc, hrs, hfr, hlo, hws, hcw⟩, hcode, hini, hy, hlen, hl, hin, hse⟩ := cw
  have hK : Back l R p e below s args y 3 8 (PreOf R mc ms Pc) (PostOf Qc mc ms free) := va_backW (hh := hh) (bytes := bytes) (maxL := maxL) (ret := ret) hM hp.1 hrc hrs hfr hlo hws hcw (fun a' U hW => word_at hW (Or.inl (by first | rfl | simp [Cond.onTables, Cond.keeps, Cond.steady])) hini)
  obtain ⟨hx, hb, hml, ho, -⟩ := S
  obtain ⟨-, ⟨cellB, hcB, hoB, hclB⟩, hPc⟩ := hp
  intro T hT X
  obtain ⟨v, vm₁, ⟨U', l2, c2, s2⟩, hW₁, X', ⟨g', mk, t, L, e1, e2, hq, h1, hL, h2, h3⟩, st⟩ := vx_callVW X hx (C := C) (hh := hh) (bytes := bytes) (maxL := maxL) (ret := ret) ho hl hin hse hcode hy hK (by rw [hT]; exact hcB) hoB hclB hg (hsize.trans hml.symm) (argsL := As) (rest := rest) (fun sig h => hn.trans (hlen sig h)) hstack hW (by rw [hb]; exact hdg)
    (fun vm₁ hW₁ => ⟨hf.1, hf.2, hPc (T.setVm vm₁) hT hW₁⟩)
  dsimp only [Pt.U, Pt.locs, Pt.cells, Pt.slots] at X' e1 e2 h1 h2 h3 st
  subst h1; subst h2; subst h3
  exact ⟨v, (T.setVm vm₁).calling g' mk (Value.ref b :: As).toArray, t, U', L, hT, X', hL, e1, e2, hq, st⟩
section
variable {y : MethodName} {bytes cc : ByteArray} {maxL nL mc ms n index : Nat} {ret : Option FieldType} {ws : List Cond} {rm : Room} {Pc : Array Value → State → Prop} {Qc : Array Value → State → Outcome → State → Prop} {XC : String → State → State → Prop} {free : Addr → Prop} {Ts : List Cond} {own C : String} {b : Addr} {As rest : List Value} {g : JFrame}
theorem vx_runVX {hh : List (Nat × Nat × Nat × Nat)} (S : CallFix p m c cc nL s args Ts own) (hM : vx_Met l y ws rm Pc Qc XC mc ms free) (cw : vx_CVW R s args own C index y bytes maxL ret hh ws rm mc ms n) (hp : PreV s H C b Pc As)
    (hg : g.method = m) (hn : As.length = n) (hsize : g.locals.size = nL) (hstack : g.stack = As.reverse ++ .ref b :: rest) (hW : 2 * g.monitorRoom + (rest.map fun v => v.category).sum ≤ 8) (hdg : decode cc g.pc = .ok (.invokevirtual index, 3)) (hf : cells + mc ≤ R.cells ∧ slots + ms ≤ R.slots) :
    vx_Run p l e R s m args below meth c H locs cells slots mc ms g rest (Qc (Value.ref b :: As).toArray) XC free := by
  obtain ⟨⟨hrc, hrs, hfr, hlo, hws, hcw⟩, hcode, hini, hy, hlen, hl, hin, hse⟩ := cw
  have hK : vx_Back l R p e below s args y 3 8 (PreOf R mc ms Pc) (PostOf Qc mc ms free) (vx_Post XC mc ms free) := vx_backW (hh := hh) (bytes := bytes) (maxL := maxL) (ret := ret) hM hp.1 hrc hrs hfr hlo hws hcw (fun a' U hW => word_at hW (Or.inl (by first | rfl | simp [Cond.onTables, Cond.keeps, Cond.steady])) hini)
  obtain ⟨hx, hb, hml, ho, -⟩ := S
  obtain ⟨-, ⟨cellB, hcB, hoB, hclB⟩, hPc⟩ := hp
  intro T hT X
  rcases vx_callVX X hx (C := C) (hh := hh) (bytes := bytes) (maxL := maxL) (ret := ret) ho hl hin hse hcode hy hK (by rw [hT]; exact hcB) hoB hclB hg (hsize.trans hml.symm) (argsL := As) (rest := rest) (fun sig h => hn.trans (hlen sig h)) hstack hW (by rw [hb]; exact hdg)
    (fun vm₁ hW₁ => ⟨hf.1, hf.2, hPc (T.setVm vm₁) hT hW₁⟩) with ⟨v, vm₁, ⟨U', l2, c2, s2⟩, hW₁, X', ⟨g', mk, t, L, e1, e2, hq, h1, hL, h2, h3⟩, st⟩ | ⟨q, vm₁, ⟨U', l2, c2, s2⟩, hW₁, X', ⟨g', mk, t, L, E, ce, e1, e2, hq, hce, hcv, hcl, h1, hL, h2, h3⟩, st⟩
  · dsimp only [Pt.U, Pt.locs, Pt.cells, Pt.slots] at X' e1 e2 h1 h2 h3 st
    subst h1; subst h2; subst h3
    exact Or.inl ⟨v, (T.setVm vm₁).calling g' mk (Value.ref b :: As).toArray, t, U', L, hT, X', hL, e1, e2, hq, st⟩
  · dsimp only [Pt.U, Pt.locs, Pt.cells, Pt.slots] at X' e1 e2 h1 h2 h3 st hcl
    subst h1; subst h2; subst h3
    exact Or.inr ⟨q, (T.setVm vm₁).calling g' mk (Value.ref b :: As).toArray, t, U', L, E, ce, hT, X', hL, e1, e2, hq, hce, hcv, vx_cls hW₁ hcl, st⟩
theorem vx_runSX {hh : List (Nat × Nat × Nat × Nat)} (S : CallFix p m c cc nL s args Ts own) (hM : vx_Met l y ws rm Pc Qc XC mc ms free) (cw : vx_CSW R s args own index y bytes maxL ret hh ws rm mc ms n) (hp : PreS s H Pc As)
    (hg : g.method = m) (hn : As.length = n) (hsize : g.locals.size = nL) (hstack : g.stack = As.reverse ++ rest) (hW : 2 * g.monitorRoom + (rest.map fun v => v.category).sum ≤ 8) (hdg : decode cc g.pc = .ok (.invokestatic index, 3)) (hf : cells + mc ≤ R.cells ∧ slots + ms ≤ R.slots) :
    vx_Run p l e R s m args below meth c H locs cells slots mc ms g rest (Qc As.toArray) XC free := by
  obtain ⟨⟨hrc, hrs, hfr, hlo, hws, hcw⟩, hcode, hini, hy, hlen, hl, hstt⟩ := cw
  have hK : vx_Back l R p e below s args y 3 8 (PreOf R mc ms Pc) (PostOf Qc mc ms free) (vx_Post XC mc ms free) := vx_backW (hh := hh) (bytes := bytes) (maxL := maxL) (ret := ret) hM hp.1 hrc hrs hfr hlo hws hcw (fun a' U hW => word_at hW (Or.inl (by first | rfl | simp [Cond.onTables, Cond.keeps, Cond.steady])) hini)
  obtain ⟨hx, hb, hml, ho, -⟩ := S
  intro T hT X
  rcases vx_callSX X hx (hh := hh) (bytes := bytes) (maxL := maxL) (ret := ret) ho hl hstt hini hcode hy hK hg (hsize.trans hml.symm) (argsL := As) (rest := rest) (fun sig h => hn.trans (hlen sig h)) hstack hW (by rw [hb]; exact hdg)
    (fun vm₁ hW₁ => ⟨hf.1, hf.2, hp.2 (T.setVm vm₁) hT hW₁⟩) with ⟨v, vm₁, ⟨U', l2, c2, s2⟩, hW₁, X', ⟨g', mk, t, L, e1, e2, hq, h1, hL, h2, h3⟩, st⟩ | ⟨q, vm₁, ⟨U', l2, c2, s2⟩, hW₁, X', ⟨g', mk, t, L, E, ce, e1, e2, hq, hce, hcv, hcl, h1, hL, h2, h3⟩, st⟩
  · dsimp only [Pt.U, Pt.locs, Pt.cells, Pt.slots] at X' e1 e2 h1 h2 h3 st
    subst h1; subst h2; subst h3
    exact Or.inl ⟨v, (T.setVm vm₁).calling g' mk As.toArray, t, U', L, hT, X', hL, e1, e2, hq, st⟩
  · dsimp only [Pt.U, Pt.locs, Pt.cells, Pt.slots] at X' e1 e2 h1 h2 h3 st hcl
    subst h1; subst h2; subst h3
    exact Or.inr ⟨q, (T.setVm vm₁).calling g' mk As.toArray, t, U', L, E, ce, hT, X', hL, e1, e2, hq, hce, hcv, vx_cls hW₁ hcl, st⟩
end
end VXH
theorem vx_ofWH {l : Launch} {y : MethodName} {ws ws' : List Cond} {rm : Room} {Pc : Array Value → State → Prop} {Qc : Array Value → State → Outcome → State → Prop} {XC : String → State → State → Prop} {mc ms : Nat} {free : Addr → Prop} {cc : ByteArray} {maxL : Nat} {ret : Option FieldType} {hh : List (Nat × Nat × Nat × Nat)}
    (hy : plainName y.cls = true) (hw : ws = Cond.codeWith y cc maxL ret hh :: ws')
    (body : ∀ p e s m args below meth c s₁, BodyLoose p l y (headSpec ws rm) cc maxL ret e s m args below meth c s₁ → c.maxLocals = maxL → Pc args s →
      W p l e (headSpec ws rm).room s m args below meth c s.heap [] 0 0 (vx_MQ below Qc XC args s mc ms free) (entryFrame m args maxL)) : vx_Met l y ws rm Pc Qc XC mc ms free := by
  refine MetFree.of_bodyS (code := cc) (maxLocals := maxL) (ret := ret) hy ?_ ?_
  · intro args s m h hn
    obtain ⟨m9, meth, c, hn9, h1, h2, h3, h4, -, h5, h6, -⟩ := Cond.codeWith_spec (atoms_spec (ws := ws) h _ (by rw [hw]; exact List.mem_cons_self))
    cases hn.symm.trans hn9
    exact ⟨meth, c, h1, h2, h3, h4, h5, h6⟩
  · intro p e s m args below meth c s₁ B hml hP _
    have hh0 : s₁.heap = s.heap := by rw [B.state]; rfl
    obtain ⟨t, a1, o, b1, b2, b3⟩ := body p e s m args below meth c s₁ B hml hP s₁ hh0 (Stand.of_body B)
    exact ⟨t, o, a1, b1, b2, b3⟩
/-! ===== END ===== -/
end
section
/-! ===== BEGIN printed: names, fields, word lists, decode rows ===== -/
def RX0 : String := "StakeWeirs$Barge"
def TX0 : u_T := fun k => match k with
  | 0 => ("StakeWeirs$Barge", "ticket", "I", false)
  | 1 => ("StakeWeirs$Barge", "wide", "I", false)
  | 2 => ("StakeWeirs$Barge", "place", "I", false)
  | _ => ("StakeWeirs$Barge", "broken", "I", false)
def tyX0 : Nat → FieldType := fun k => match k with
  | 0 => .int
  | 1 => .int
  | 2 => .int
  | _ => .int
abbrev wsX00 : List Cond := u_ws RX0 TX0 4
theorem nmX0 : ∀ a, a < 4 → ∀ b, b < 4 → a ≠ b → (TX0 a).2.1 ≠ (TX0 b).2.1 := by decide +kernel
theorem tyX0_ok : ∀ k, k < 4 → parseFieldDescriptor (TX0 k).2.2.1 = some (tyX0 k) := by decide +kernel
abbrev cX0_init : ByteArray := prog_2_method_1_code
def yX0_init : MethodName := ⟨RX0, "<init>", "()V"⟩
abbrev cX0_makeNew : ByteArray := prog_2_method_2_code
def yX0_makeNew : MethodName := ⟨RX0, "makeNew", "(II)V"⟩
abbrev cX0_copyFrom : ByteArray := prog_2_method_3_code
def yX0_copyFrom : MethodName := ⟨RX0, "copyFrom", "(LStakeWeirs$Barge;)V"⟩
abbrev cX0_goOn : ByteArray := prog_2_method_4_code
def yX0_goOn : MethodName := ⟨RX0, "goOn", "(I)V"⟩
def RX1 : String := "StakeWeirs$Estuary"
def TX1 : u_T := fun k => match k with
  | 0 => ("StakeWeirs$Estuary", "table", "[I", true)
  | 1 => ("StakeWeirs$Estuary", "weirs", "[LStakeWeirs$Weir;", true)
  | 2 => ("StakeWeirs$Estuary", "order", "[I", true)
  | 3 => ("StakeWeirs$Estuary", "barges", "[LStakeWeirs$Barge;", true)
  | 4 => ("StakeWeirs$Estuary", "weirCount", "I", false)
  | 5 => ("StakeWeirs$Estuary", "bargeCount", "I", false)
  | 6 => ("StakeWeirs$Estuary", "night", "I", false)
  | 7 => ("StakeWeirs$Estuary", "arrived", "I", false)
  | 8 => ("StakeWeirs$Estuary", "fines", "I", false)
  | _ => ("StakeWeirs$Estuary", "rents", "I", false)
def tyX1 : Nat → FieldType := fun k => match k with
  | 0 => .array .int
  | 1 => .array (.object "StakeWeirs$Weir")
  | 2 => .array .int
  | 3 => .array (.object "StakeWeirs$Barge")
  | 4 => .int
  | 5 => .int
  | 6 => .int
  | 7 => .int
  | 8 => .int
  | _ => .int
abbrev wsX10 : List Cond := u_ws RX1 TX1 10
theorem nmX1 : ∀ a, a < 10 → ∀ b, b < 10 → a ≠ b → (TX1 a).2.1 ≠ (TX1 b).2.1 := by decide +kernel
theorem tyX1_ok : ∀ k, k < 10 → parseFieldDescriptor (TX1 k).2.2.1 = some (tyX1 k) := by decide +kernel
abbrev cX1_init : ByteArray := prog_3_method_1_code
def yX1_init : MethodName := ⟨RX1, "<init>", "()V"⟩
abbrev cX1_copyFrom : ByteArray := prog_3_method_2_code
def yX1_copyFrom : MethodName := ⟨RX1, "copyFrom", "(LStakeWeirs$Estuary;)V"⟩
abbrev cX1_copyWeir : ByteArray := prog_3_method_3_code
def yX1_copyWeir : MethodName := ⟨RX1, "copyWeir", "(LStakeWeirs$Weir;LStakeWeirs$Weir;)V"⟩
abbrev cX1_copyBarge : ByteArray := prog_3_method_4_code
def yX1_copyBarge : MethodName := ⟨RX1, "copyBarge", "(LStakeWeirs$Barge;LStakeWeirs$Barge;)V"⟩
abbrev cX1_weirAt : ByteArray := prog_3_method_5_code
def yX1_weirAt : MethodName := ⟨RX1, "weirAt", "(I)LStakeWeirs$Weir;"⟩
abbrev cX1_bargeAt : ByteArray := prog_3_method_6_code
def yX1_bargeAt : MethodName := ⟨RX1, "bargeAt", "(I)LStakeWeirs$Barge;"⟩
abbrev cX1_inOrder : ByteArray := prog_3_method_7_code
def yX1_inOrder : MethodName := ⟨RX1, "inOrder", "(I)I"⟩
abbrev cX1_tableEels : ByteArray := prog_3_method_8_code
def yX1_tableEels : MethodName := ⟨RX1, "tableEels", "(I)I"⟩
abbrev cX1_setTableEels : ByteArray := prog_3_method_9_code
def yX1_setTableEels : MethodName := ⟨RX1, "setTableEels", "(II)V"⟩
abbrev cX1_addWeir : ByteArray := prog_3_method_10_code
def yX1_addWeir : MethodName := ⟨RX1, "addWeir", "(III)I"⟩
abbrev cX1_putInOrder : ByteArray := prog_3_method_11_code
def yX1_putInOrder : MethodName := ⟨RX1, "putInOrder", "(II)V"⟩
abbrev cX1_isSeawardsOf : ByteArray := prog_3_method_12_code
def yX1_isSeawardsOf : MethodName := ⟨RX1, "isSeawardsOf", "(II)Z"⟩
abbrev cX1_addBarge : ByteArray := prog_3_method_13_code
def yX1_addBarge : MethodName := ⟨RX1, "addBarge", "(I)I"⟩
abbrev cX1_isUnderWay : ByteArray := prog_3_method_14_code
def yX1_isUnderWay : MethodName := ⟨RX1, "isUnderWay", "(I)Z"⟩
abbrev cX1_moon : ByteArray := prog_3_method_15_code
def yX1_moon : MethodName := ⟨RX1, "moon", "()I"⟩
abbrev cX1_run : ByteArray := prog_3_method_16_code
def yX1_run : MethodName := ⟨RX1, "run", "()I"⟩
abbrev cX1_fact : ByteArray := prog_3_method_17_code
def yX1_fact : MethodName := ⟨RX1, "fact", "(I)I"⟩
abbrev cX1_bargeFact : ByteArray := prog_3_method_18_code
def yX1_bargeFact : MethodName := ⟨RX1, "bargeFact", "(LStakeWeirs$Barge;I)I"⟩
abbrev cX1_heldWeirs : ByteArray := prog_3_method_19_code
def yX1_heldWeirs : MethodName := ⟨RX1, "heldWeirs", "()I"⟩
abbrev cX1_heldWattle : ByteArray := prog_3_method_20_code
def yX1_heldWattle : MethodName := ⟨RX1, "heldWattle", "()I"⟩
abbrev cX1_allEels : ByteArray := prog_3_method_21_code
def yX1_allEels : MethodName := ⟨RX1, "allEels", "()I"⟩
abbrev cX1_weirsInWay : ByteArray := prog_3_method_22_code
def yX1_weirsInWay : MethodName := ⟨RX1, "weirsInWay", "(I)I"⟩
abbrev cX1_richestHeld : ByteArray := prog_3_method_23_code
def yX1_richestHeld : MethodName := ⟨RX1, "richestHeld", "()I"⟩
abbrev cX1_nextInWay : ByteArray := prog_3_method_24_code
def yX1_nextInWay : MethodName := ⟨RX1, "nextInWay", "(LStakeWeirs$Barge;)I"⟩
abbrev cX1_goThroughNights : ByteArray := prog_3_method_25_code
def yX1_goThroughNights : MethodName := ⟨RX1, "goThroughNights", "(I)V"⟩
abbrev cX1_catchEels : ByteArray := prog_3_method_26_code
def yX1_catchEels : MethodName := ⟨RX1, "catchEels", "()V"⟩
abbrev cX1_moveBarges : ByteArray := prog_3_method_27_code
def yX1_moveBarges : MethodName := ⟨RX1, "moveBarges", "()V"⟩
abbrev cX1_breakThrough : ByteArray := prog_3_method_28_code
def yX1_breakThrough : MethodName := ⟨RX1, "breakThrough", "(LStakeWeirs$Barge;)V"⟩
abbrev cX1_leaveOutArrived : ByteArray := prog_3_method_29_code
def yX1_leaveOutArrived : MethodName := ⟨RX1, "leaveOutArrived", "()V"⟩
abbrev cX1_rotWattle : ByteArray := prog_3_method_30_code
def yX1_rotWattle : MethodName := ⟨RX1, "rotWattle", "()V"⟩
abbrev cX1_collectRents : ByteArray := prog_3_method_31_code
def yX1_collectRents : MethodName := ⟨RX1, "collectRents", "()V"⟩
def RX2 : String := "StakeWeirs$Weir"
def TX2 : u_T := fun k => match k with
  | 0 => ("StakeWeirs$Weir", "place", "I", false)
  | 1 => ("StakeWeirs$Weir", "stakes", "I", false)
  | 2 => ("StakeWeirs$Weir", "wattle", "I", false)
  | 3 => ("StakeWeirs$Weir", "rent", "I", false)
  | 4 => ("StakeWeirs$Weir", "coins", "I", false)
  | 5 => ("StakeWeirs$Weir", "eels", "I", false)
  | 6 => ("StakeWeirs$Weir", "open", "Z", false)
  | _ => ("StakeWeirs$Weir", "owed", "I", false)
def tyX2 : Nat → FieldType := fun k => match k with
  | 0 => .int
  | 1 => .int
  | 2 => .int
  | 3 => .int
  | 4 => .int
  | 5 => .int
  | 6 => .boolean
  | _ => .int
abbrev wsX20 : List Cond := u_ws RX2 TX2 8
theorem nmX2 : ∀ a, a < 8 → ∀ b, b < 8 → a ≠ b → (TX2 a).2.1 ≠ (TX2 b).2.1 := by decide +kernel
theorem tyX2_ok : ∀ k, k < 8 → parseFieldDescriptor (TX2 k).2.2.1 = some (tyX2 k) := by decide +kernel
abbrev cX2_init : ByteArray := prog_4_method_1_code
def yX2_init : MethodName := ⟨RX2, "<init>", "()V"⟩
abbrev cX2_makeNew : ByteArray := prog_4_method_2_code
def yX2_makeNew : MethodName := ⟨RX2, "makeNew", "(III)V"⟩
abbrev cX2_copyFrom : ByteArray := prog_4_method_3_code
def yX2_copyFrom : MethodName := ⟨RX2, "copyFrom", "(LStakeWeirs$Weir;)V"⟩
abbrev cX2_isHeld : ByteArray := prog_4_method_4_code
def yX2_isHeld : MethodName := ⟨RX2, "isHeld", "()Z"⟩
abbrev cX2_isFishing : ByteArray := prog_4_method_5_code
def yX2_isFishing : MethodName := ⟨RX2, "isFishing", "()Z"⟩
abbrev cX2_isInWay : ByteArray := prog_4_method_6_code
def yX2_isInWay : MethodName := ⟨RX2, "isInWay", "(I)Z"⟩
abbrev cX2_fact : ByteArray := prog_4_method_7_code
def yX2_fact : MethodName := ⟨RX2, "fact", "(I)I"⟩
abbrev cX2_catchOf : ByteArray := prog_4_method_8_code
def yX2_catchOf : MethodName := ⟨RX2, "catchOf", "(I)I"⟩
abbrev cX2_breakFor : ByteArray := prog_4_method_9_code
def yX2_breakFor : MethodName := ⟨RX2, "breakFor", "(I)I"⟩
abbrev cX2_loseWattle : ByteArray := prog_4_method_10_code
def yX2_loseWattle : MethodName := ⟨RX2, "loseWattle", "(I)V"⟩
abbrev cX2_payRent : ByteArray := prog_4_method_11_code
def yX2_payRent : MethodName := ⟨RX2, "payRent", "()I"⟩
def RX3 : String := "StakeWeirs"
def TX3 : u_T := fun k => match k with
  | 0 => ("StakeWeirs", "now", "LStakeWeirs$Estuary;", true)
  | _ => ("StakeWeirs", "trial", "LStakeWeirs$Estuary;", true)
def tyX3 : Nat → FieldType := fun k => match k with
  | 0 => .object "StakeWeirs$Estuary"
  | _ => .object "StakeWeirs$Estuary"
abbrev wsX30 : List Cond := u_ws RX3 TX3 2
theorem nmX3 : ∀ a, a < 2 → ∀ b, b < 2 → a ≠ b → (TX3 a).2.1 ≠ (TX3 b).2.1 := by decide +kernel
theorem tyX3_ok : ∀ k, k < 2 → parseFieldDescriptor (TX3 k).2.2.1 = some (tyX3 k) := by decide +kernel
abbrev cX3_init : ByteArray := prog_1_method_1_code
def yX3_init : MethodName := ⟨RX3, "<init>", "()V"⟩
abbrev cX3_weir : ByteArray := prog_1_method_2_code
def yX3_weir : MethodName := ⟨RX3, "weir", "(III)I"⟩
abbrev cX3_gate : ByteArray := prog_1_method_3_code
def yX3_gate : MethodName := ⟨RX3, "gate", "(I)Z"⟩
abbrev cX3_mend : ByteArray := prog_1_method_4_code
def yX3_mend : MethodName := ⟨RX3, "mend", "(II)I"⟩
abbrev cX3_drive : ByteArray := prog_1_method_5_code
def yX3_drive : MethodName := ⟨RX3, "drive", "(II)I"⟩
abbrev cX3_sell : ByteArray := prog_1_method_6_code
def yX3_sell : MethodName := ⟨RX3, "sell", "(I)I"⟩
abbrev cX3_setRun : ByteArray := prog_1_method_7_code
def yX3_setRun : MethodName := ⟨RX3, "setRun", "(II)I"⟩
abbrev cX3_barge : ByteArray := prog_1_method_8_code
def yX3_barge : MethodName := ⟨RX3, "barge", "(I)I"⟩
abbrev cX3_about : ByteArray := prog_1_method_9_code
def yX3_about : MethodName := ⟨RX3, "about", "(II)I"⟩
abbrev cX3_told : ByteArray := prog_1_method_10_code
def yX3_told : MethodName := ⟨RX3, "told", "(II)I"⟩
abbrev cX3_count : ByteArray := prog_1_method_11_code
def yX3_count : MethodName := ⟨RX3, "count", "(I)I"⟩
abbrev cX3_hinders : ByteArray := prog_1_method_12_code
def yX3_hinders : MethodName := ⟨RX3, "hinders", "(I)I"⟩
abbrev cX3_richest : ByteArray := prog_1_method_13_code
def yX3_richest : MethodName := ⟨RX3, "richest", "()I"⟩
abbrev cX3_pass : ByteArray := prog_1_method_14_code
def yX3_pass : MethodName := ⟨RX3, "pass", "(I)I"⟩
abbrev cX3_catches : ByteArray := prog_1_method_15_code
def yX3_catches : MethodName := ⟨RX3, "catches", "(I)I"⟩
abbrev cX3_arrives : ByteArray := prog_1_method_16_code
def yX3_arrives : MethodName := ⟨RX3, "arrives", "(I)I"⟩
abbrev cX3_lasts : ByteArray := prog_1_method_17_code
def yX3_lasts : MethodName := ⟨RX3, "lasts", "(I)I"⟩
abbrev cX3_foresee : ByteArray := prog_1_method_18_code
def yX3_foresee : MethodName := ⟨RX3, "foresee", "(II)I"⟩
abbrev cX3_advise : ByteArray := prog_1_method_19_code
def yX3_advise : MethodName := ⟨RX3, "advise", "(II)I"⟩
abbrev cX3_mean : ByteArray := prog_1_method_20_code
def yX3_mean : MethodName := ⟨RX3, "mean", "()D"⟩
abbrev cX3_digest : ByteArray := prog_1_method_21_code
def yX3_digest : MethodName := ⟨RX3, "digest", "()J"⟩
abbrev cX3_digestOfWeirs : ByteArray := prog_1_method_22_code
def yX3_digestOfWeirs : MethodName := ⟨RX3, "digestOfWeirs", "(J)J"⟩
abbrev cX3_digestOfBarges : ByteArray := prog_1_method_23_code
def yX3_digestOfBarges : MethodName := ⟨RX3, "digestOfBarges", "(J)J"⟩
abbrev cX3_eelsWithStakes : ByteArray := prog_1_method_24_code
def yX3_eelsWithStakes : MethodName := ⟨RX3, "eelsWithStakes", "(III)I"⟩
abbrev cX3_isWithin : ByteArray := prog_1_method_25_code
def yX3_isWithin : MethodName := ⟨RX3, "isWithin", "(III)Z"⟩
abbrev cX3_priceOfEels : ByteArray := prog_1_method_26_code
def yX3_priceOfEels : MethodName := ⟨RX3, "priceOfEels", "(II)I"⟩
def RX4 : String := "StakeWeirsModel$State"
def TX4 : u_T := fun k => match k with
  | 0 => ("StakeWeirsModel$State", "night", "I", false)
  | 1 => ("StakeWeirsModel$State", "stakes", "[I", true)
  | 2 => ("StakeWeirsModel$State", "wattle", "[I", true)
  | 3 => ("StakeWeirsModel$State", "coins", "[I", true)
  | 4 => ("StakeWeirsModel$State", "eels", "[I", true)
  | 5 => ("StakeWeirsModel$State", "open", "[I", true)
  | 6 => ("StakeWeirsModel$State", "owes", "[I", true)
  | 7 => ("StakeWeirsModel$State", "barges", "I", false)
  | 8 => ("StakeWeirsModel$State", "wide", "[I", true)
  | 9 => ("StakeWeirsModel$State", "at", "[I", true)
  | 10 => ("StakeWeirsModel$State", "broken", "[I", true)
  | 11 => ("StakeWeirsModel$State", "was", "[I", true)
  | 12 => ("StakeWeirsModel$State", "arrived", "I", false)
  | 13 => ("StakeWeirsModel$State", "fines", "I", false)
  | 14 => ("StakeWeirsModel$State", "rents", "I", false)
  | _ => ("StakeWeirsModel$State", "this$0", "LStakeWeirsModel;", true)
def tyX4 : Nat → FieldType := fun k => match k with
  | 0 => .int
  | 1 => .array .int
  | 2 => .array .int
  | 3 => .array .int
  | 4 => .array .int
  | 5 => .array .int
  | 6 => .array .int
  | 7 => .int
  | 8 => .array .int
  | 9 => .array .int
  | 10 => .array .int
  | 11 => .array .int
  | 12 => .int
  | 13 => .int
  | 14 => .int
  | _ => .object "StakeWeirsModel"
abbrev wsX40 : List Cond := u_ws RX4 TX4 16
theorem nmX4 : ∀ a, a < 16 → ∀ b, b < 16 → a ≠ b → (TX4 a).2.1 ≠ (TX4 b).2.1 := by decide +kernel
theorem tyX4_ok : ∀ k, k < 16 → parseFieldDescriptor (TX4 k).2.2.1 = some (tyX4 k) := by decide +kernel
abbrev cX4_init : ByteArray := prog_7_method_1_code
def yX4_init : MethodName := ⟨RX4, "<init>", "(LStakeWeirsModel;)V"⟩
abbrev cX4_copy : ByteArray := prog_7_method_2_code
def yX4_copy : MethodName := ⟨RX4, "copy", "([I[I)V"⟩
abbrev cX4_become : ByteArray := prog_7_method_3_code
def yX4_become : MethodName := ⟨RX4, "become", "(LStakeWeirsModel$State;)LStakeWeirsModel$State;"⟩
abbrev cX4_isHeld : ByteArray := prog_7_method_4_code
def yX4_isHeld : MethodName := ⟨RX4, "isHeld", "(I)Z"⟩
abbrev cX4_moon : ByteArray := prog_7_method_5_code
def yX4_moon : MethodName := ⟨RX4, "moon", "()I"⟩
abbrev cX4_run : ByteArray := prog_7_method_6_code
def yX4_run : MethodName := ⟨RX4, "run", "()I"⟩
abbrev cX4_isInWay : ByteArray := prog_7_method_7_code
def yX4_isInWay : MethodName := ⟨RX4, "isInWay", "(II)Z"⟩
abbrev cX4_runDown : ByteArray := prog_7_method_8_code
def yX4_runDown : MethodName := ⟨RX4, "runDown", "(I)I"⟩
abbrev cX4_breaks : ByteArray := prog_7_method_9_code
def yX4_breaks : MethodName := ⟨RX4, "breaks", "(I)Z"⟩
abbrev cX4_goUp : ByteArray := prog_7_method_10_code
def yX4_goUp : MethodName := ⟨RX4, "goUp", "(I)V"⟩
abbrev cX4_leave : ByteArray := prog_7_method_11_code
def yX4_leave : MethodName := ⟨RX4, "leave", "()V"⟩
abbrev cX4_payRent : ByteArray := prog_7_method_12_code
def yX4_payRent : MethodName := ⟨RX4, "payRent", "(I)V"⟩
abbrev cX4_pass : ByteArray := prog_7_method_13_code
def yX4_pass : MethodName := ⟨RX4, "pass", "()V"⟩
abbrev cX4_pass_ : ByteArray := prog_7_method_14_code
def yX4_pass_ : MethodName := ⟨RX4, "pass", "(I)V"⟩
abbrev cX4_held : ByteArray := prog_7_method_15_code
def yX4_held : MethodName := ⟨RX4, "held", "()I"⟩
abbrev cX4_allEels : ByteArray := prog_7_method_16_code
def yX4_allEels : MethodName := ⟨RX4, "allEels", "()I"⟩
abbrev cX4_counted : ByteArray := prog_7_method_17_code
def yX4_counted : MethodName := ⟨RX4, "counted", "(I)I"⟩
def RX5 : String := "StakeWeirsModel"
def TX5 : u_T := fun k => match k with
  | 0 => ("StakeWeirsModel", "thrown", "I", false)
  | 1 => ("StakeWeirsModel", "table", "[I", true)
  | 2 => ("StakeWeirsModel", "weirs", "I", false)
  | 3 => ("StakeWeirsModel", "place", "[I", true)
  | 4 => ("StakeWeirsModel", "rent", "[I", true)
  | 5 => ("StakeWeirsModel", "s", "LStakeWeirsModel$State;", true)
  | _ => ("StakeWeirsModel", "ahead", "LStakeWeirsModel$State;", true)
def tyX5 : Nat → FieldType := fun k => match k with
  | 0 => .int
  | 1 => .array .int
  | 2 => .int
  | 3 => .array .int
  | 4 => .array .int
  | 5 => .object "StakeWeirsModel$State"
  | _ => .object "StakeWeirsModel$State"
abbrev wsX50 : List Cond := u_ws RX5 TX5 7
theorem nmX5 : ∀ a, a < 7 → ∀ b, b < 7 → a ≠ b → (TX5 a).2.1 ≠ (TX5 b).2.1 := by decide +kernel
theorem tyX5_ok : ∀ k, k < 7 → parseFieldDescriptor (TX5 k).2.2.1 = some (tyX5 k) := by decide +kernel
abbrev cX5_init : ByteArray := prog_6_method_1_code
def yX5_init : MethodName := ⟨RX5, "<init>", "()V"⟩
abbrev cX5_thrown : ByteArray := prog_6_method_2_code
def yX5_thrown : MethodName := ⟨RX5, "thrown", "()I"⟩
abbrev cX5_no : ByteArray := prog_6_method_3_code
def yX5_no : MethodName := ⟨RX5, "no", "(I)I"⟩
abbrev cX5_isIn : ByteArray := prog_6_method_4_code
def yX5_isIn : MethodName := ⟨RX5, "isIn", "(III)Z"⟩
abbrev cX5_isWeir : ByteArray := prog_6_method_5_code
def yX5_isWeir : MethodName := ⟨RX5, "isWeir", "(I)Z"⟩
abbrev cX5_isBarge : ByteArray := prog_6_method_6_code
def yX5_isBarge : MethodName := ⟨RX5, "isBarge", "(I)Z"⟩
abbrev cX5_weir : ByteArray := prog_6_method_7_code
def yX5_weir : MethodName := ⟨RX5, "weir", "(III)I"⟩
abbrev cX5_gate : ByteArray := prog_6_method_8_code
def yX5_gate : MethodName := ⟨RX5, "gate", "(I)Z"⟩
abbrev cX5_mend : ByteArray := prog_6_method_9_code
def yX5_mend : MethodName := ⟨RX5, "mend", "(II)I"⟩
abbrev cX5_drive : ByteArray := prog_6_method_10_code
def yX5_drive : MethodName := ⟨RX5, "drive", "(II)I"⟩
abbrev cX5_sell : ByteArray := prog_6_method_11_code
def yX5_sell : MethodName := ⟨RX5, "sell", "(I)I"⟩
abbrev cX5_setRun : ByteArray := prog_6_method_12_code
def yX5_setRun : MethodName := ⟨RX5, "setRun", "(II)I"⟩
abbrev cX5_barge : ByteArray := prog_6_method_13_code
def yX5_barge : MethodName := ⟨RX5, "barge", "(I)I"⟩
abbrev cX5_weirTold : ByteArray := prog_6_method_14_code
def yX5_weirTold : MethodName := ⟨RX5, "weirTold", "(II)I"⟩
abbrev cX5_about : ByteArray := prog_6_method_15_code
def yX5_about : MethodName := ⟨RX5, "about", "(II)I"⟩
abbrev cX5_nextFor : ByteArray := prog_6_method_16_code
def yX5_nextFor : MethodName := ⟨RX5, "nextFor", "(I)I"⟩
abbrev cX5_bargeTold : ByteArray := prog_6_method_17_code
def yX5_bargeTold : MethodName := ⟨RX5, "bargeTold", "(II)I"⟩
abbrev cX5_told : ByteArray := prog_6_method_18_code
def yX5_told : MethodName := ⟨RX5, "told", "(II)I"⟩
abbrev cX5_count : ByteArray := prog_6_method_19_code
def yX5_count : MethodName := ⟨RX5, "count", "(I)I"⟩
abbrev cX5_hinders : ByteArray := prog_6_method_20_code
def yX5_hinders : MethodName := ⟨RX5, "hinders", "(I)I"⟩
abbrev cX5_richest : ByteArray := prog_6_method_21_code
def yX5_richest : MethodName := ⟨RX5, "richest", "()I"⟩
abbrev cX5_pass : ByteArray := prog_6_method_22_code
def yX5_pass : MethodName := ⟨RX5, "pass", "(I)I"⟩
abbrev cX5_catches : ByteArray := prog_6_method_23_code
def yX5_catches : MethodName := ⟨RX5, "catches", "(I)I"⟩
abbrev cX5_isUnderWay : ByteArray := prog_6_method_24_code
def yX5_isUnderWay : MethodName := ⟨RX5, "isUnderWay", "(I)Z"⟩
abbrev cX5_arrives : ByteArray := prog_6_method_25_code
def yX5_arrives : MethodName := ⟨RX5, "arrives", "(I)I"⟩
abbrev cX5_lasts : ByteArray := prog_6_method_26_code
def yX5_lasts : MethodName := ⟨RX5, "lasts", "(I)I"⟩
abbrev cX5_foresee : ByteArray := prog_6_method_27_code
def yX5_foresee : MethodName := ⟨RX5, "foresee", "(II)I"⟩
abbrev cX5_advise : ByteArray := prog_6_method_28_code
def yX5_advise : MethodName := ⟨RX5, "advise", "(II)I"⟩
abbrev cX5_mean : ByteArray := prog_6_method_29_code
def yX5_mean : MethodName := ⟨RX5, "mean", "()D"⟩
abbrev cX5_digest : ByteArray := prog_6_method_30_code
def yX5_digest : MethodName := ⟨RX5, "digest", "()J"⟩
def RJ9 : String := "java/lang/Math"
def TJ9 : u_T := fun k => match k with
  | _ => ("", "", "", false)
def tyJ9 : Nat → FieldType := fun k => match k with
  | _ => .int
abbrev wsJ90 : List Cond := u_ws RJ9 TJ9 0
theorem nmJ9 : ∀ a, a < 0 → ∀ b, b < 0 → a ≠ b → (TJ9 a).2.1 ≠ (TJ9 b).2.1 := by decide +kernel
theorem tyJ9_ok : ∀ k, k < 0 → parseFieldDescriptor (TJ9 k).2.2.1 = some (tyJ9 k) := by decide +kernel
abbrev cJ9_floorMod_7cf53 : ByteArray := prog_12_method_50_code
def yJ9_floorMod_7cf53 : MethodName := ⟨RJ9, "floorMod", "(II)I"⟩
abbrev cJ9_max_7cf53 : ByteArray := prog_12_method_65_code
def yJ9_max_7cf53 : MethodName := ⟨RJ9, "max", "(II)I"⟩
abbrev cJ9_min_7cf53 : ByteArray := prog_12_method_69_code
def yJ9_min_7cf53 : MethodName := ⟨RJ9, "min", "(II)I"⟩
def RJ0 : String := "java/lang/String"
def TJ0 : u_T := fun k => match k with
  | _ => ("", "", "", false)
def tyJ0 : Nat → FieldType := fun k => match k with
  | _ => .int
abbrev wsJ00 : List Cond := u_ws RJ0 TJ0 0
theorem nmJ0 : ∀ a, a < 0 → ∀ b, b < 0 → a ≠ b → (TJ0 a).2.1 ≠ (TJ0 b).2.1 := by decide +kernel
theorem tyJ0_ok : ∀ k, k < 0 → parseFieldDescriptor (TJ0 k).2.2.1 = some (tyJ0 k) := by decide +kernel
def RJ10 : String := "java/lang/System"
def TJ10 : u_T := fun k => match k with
  | _ => ("", "", "", false)
def tyJ10 : Nat → FieldType := fun k => match k with
  | _ => .int
abbrev wsJ100 : List Cond := u_ws RJ10 TJ10 0
theorem nmJ10 : ∀ a, a < 0 → ∀ b, b < 0 → a ≠ b → (TJ10 a).2.1 ≠ (TJ10 b).2.1 := by decide +kernel
theorem tyJ10_ok : ∀ k, k < 0 → parseFieldDescriptor (TJ10 k).2.2.1 = some (tyJ10 k) := by decide +kernel
def RL : String := "StakeWeirsLaw"
abbrev cL_weir : ByteArray := method_3_code
def yL_weir : MethodName := ⟨RL, "weir", "(LStakeWeirs;III[J)I"⟩
abbrev cL_gate : ByteArray := method_4_code
def yL_gate : MethodName := ⟨RL, "gate", "(LStakeWeirs;I[J)I"⟩
abbrev cL_mend : ByteArray := method_5_code
def yL_mend : MethodName := ⟨RL, "mend", "(LStakeWeirs;II[J)I"⟩
abbrev cL_drive : ByteArray := method_6_code
def yL_drive : MethodName := ⟨RL, "drive", "(LStakeWeirs;II[J)I"⟩
abbrev cL_sell : ByteArray := method_7_code
def yL_sell : MethodName := ⟨RL, "sell", "(LStakeWeirs;I[J)I"⟩
abbrev cL_setRun : ByteArray := method_8_code
def yL_setRun : MethodName := ⟨RL, "setRun", "(LStakeWeirs;II[J)I"⟩
abbrev cL_barge : ByteArray := method_9_code
def yL_barge : MethodName := ⟨RL, "barge", "(LStakeWeirs;I[J)I"⟩
abbrev cL_about : ByteArray := method_10_code
def yL_about : MethodName := ⟨RL, "about", "(LStakeWeirs;II[J)I"⟩
abbrev cL_told : ByteArray := method_11_code
def yL_told : MethodName := ⟨RL, "told", "(LStakeWeirs;II[J)I"⟩
abbrev cL_count : ByteArray := method_12_code
def yL_count : MethodName := ⟨RL, "count", "(LStakeWeirs;I[J)I"⟩
abbrev cL_hinders : ByteArray := method_13_code
def yL_hinders : MethodName := ⟨RL, "hinders", "(LStakeWeirs;I[J)I"⟩
abbrev cL_pass : ByteArray := method_14_code
def yL_pass : MethodName := ⟨RL, "pass", "(LStakeWeirs;I[J)I"⟩
abbrev cL_catches : ByteArray := method_15_code
def yL_catches : MethodName := ⟨RL, "catches", "(LStakeWeirs;I[J)I"⟩
abbrev cL_arrives : ByteArray := method_16_code
def yL_arrives : MethodName := ⟨RL, "arrives", "(LStakeWeirs;I[J)I"⟩
abbrev cL_lasts : ByteArray := method_17_code
def yL_lasts : MethodName := ⟨RL, "lasts", "(LStakeWeirs;I[J)I"⟩
abbrev cL_foresee : ByteArray := method_18_code
def yL_foresee : MethodName := ⟨RL, "foresee", "(LStakeWeirs;II[J)I"⟩
abbrev cL_advise : ByteArray := method_19_code
def yL_advise : MethodName := ⟨RL, "advise", "(LStakeWeirs;II[J)I"⟩
abbrev cL_law : ByteArray := code
def yL_law : MethodName := ⟨RL, "law", "([I)Z"⟩
def wsX0_init : List Cond := .code yX0_init cX0_init 1 none :: ([.methodLink RX0 3 objectInit, .instanceMethod objectInit, .code objectInit ⟨#[0xb1]⟩ 1 none])
def wsX0_makeNew : List Cond := .code yX0_makeNew cX0_makeNew 3 none :: ([.fieldLink RX0 9 "StakeWeirs$Barge" "ticket" "I", .fieldLink RX0 15 "StakeWeirs$Barge" "wide" "I", .fieldLink RX0 18 "StakeWeirs$Barge" "place" "I", .fieldLink RX0 21 "StakeWeirs$Barge" "broken" "I"] ++ wsX00)
def wsX0_copyFrom : List Cond := .code yX0_copyFrom cX0_copyFrom 2 none :: ([.fieldLink RX0 9 "StakeWeirs$Barge" "ticket" "I", .fieldLink RX0 15 "StakeWeirs$Barge" "wide" "I", .fieldLink RX0 18 "StakeWeirs$Barge" "place" "I", .fieldLink RX0 21 "StakeWeirs$Barge" "broken" "I"] ++ wsX00)
def wsX0_goOn : List Cond := .code yX0_goOn cX0_goOn 2 none :: ([.fieldLink RX0 18 "StakeWeirs$Barge" "place" "I", .methodLink RX0 24 Lib.Math.min.name, .static Lib.Math.min.name, .initialized "java/lang/Math", .code Lib.Math.min.name Lib.Math.min.code 2 (some .int)] ++ wsX00)
def wsX2_init : List Cond := .code yX2_init cX2_init 1 none :: ([.methodLink RX2 3 objectInit, .instanceMethod objectInit, .code objectInit ⟨#[0xb1]⟩ 1 none])
def wsX1_init : List Cond := .code yX1_init cX1_init 2 none :: ([.methodLink RX1 3 objectInit, .instanceMethod objectInit, .code objectInit ⟨#[0xb1]⟩ 1 none, .arrayClass .int, .fieldLink RX1 9 "StakeWeirs$Estuary" "table" "[I", .fieldLink RX1 15 "StakeWeirs$Estuary" "order" "[I", .classLink RX1 18 RX2, .fieldLink RX1 20 "StakeWeirs$Estuary" "weirs" "[LStakeWeirs$Weir;", .instantiable RX2 8, .initialized RX2, .classLink RX1 25 RX0, .fieldLink RX1 27 "StakeWeirs$Estuary" "barges" "[LStakeWeirs$Barge;", .instantiable RX0 4, .initialized RX0, .instanceMethod yX2_init, .code yX2_init cX2_init 1 none, .methodLink RX2 3 objectInit, .instanceMethod yX0_init, .code yX0_init cX0_init 1 none, .methodLink RX0 3 objectInit] ++ wsX10 ++ wsX20 ++ wsX00)
def wsX1_tableEels : List Cond := .code yX1_tableEels cX1_tableEels 2 (some .int) :: ([.fieldLink RX1 9 "StakeWeirs$Estuary" "table" "[I"] ++ wsX10)
def wsX1_inOrder : List Cond := .code yX1_inOrder cX1_inOrder 2 (some .int) :: ([.fieldLink RX1 15 "StakeWeirs$Estuary" "order" "[I"] ++ wsX10)
def wsX1_weirAt : List Cond := .code yX1_weirAt cX1_weirAt 3 (some (.object "StakeWeirs$Weir")) :: ([.fieldLink RX1 39 "StakeWeirs$Estuary" "weirCount" "I", .fieldLink RX1 20 "StakeWeirs$Estuary" "weirs" "[LStakeWeirs$Weir;"] ++ wsX10)
def wsX2_copyFrom : List Cond := .code yX2_copyFrom cX2_copyFrom 2 none :: ([.fieldLink RX2 9 "StakeWeirs$Weir" "place" "I", .fieldLink RX2 15 "StakeWeirs$Weir" "stakes" "I", .fieldLink RX2 18 "StakeWeirs$Weir" "wattle" "I", .fieldLink RX2 21 "StakeWeirs$Weir" "rent" "I", .fieldLink RX2 24 "StakeWeirs$Weir" "coins" "I", .fieldLink RX2 27 "StakeWeirs$Weir" "eels" "I", .fieldLink RX2 30 "StakeWeirs$Weir" "open" "Z", .fieldLink RX2 34 "StakeWeirs$Weir" "owed" "I"] ++ wsX20)
def wsX1_copyWeir : List Cond := .code yX1_copyWeir cX1_copyWeir 2 none :: ([.methodLink RX1 74 yX2_copyFrom, .instanceMethod yX2_copyFrom, .selects RX2 yX2_copyFrom yX2_copyFrom, .initialized RX2, .code yX2_copyFrom cX2_copyFrom 2 none, .fieldLink RX2 9 "StakeWeirs$Weir" "place" "I", .fieldLink RX2 15 "StakeWeirs$Weir" "stakes" "I", .fieldLink RX2 18 "StakeWeirs$Weir" "wattle" "I", .fieldLink RX2 21 "StakeWeirs$Weir" "rent" "I", .fieldLink RX2 24 "StakeWeirs$Weir" "coins" "I", .fieldLink RX2 27 "StakeWeirs$Weir" "eels" "I", .fieldLink RX2 30 "StakeWeirs$Weir" "open" "Z", .fieldLink RX2 34 "StakeWeirs$Weir" "owed" "I"] ++ wsX20)
def wsX1_bargeAt : List Cond := .code yX1_bargeAt cX1_bargeAt 3 (some (.object "StakeWeirs$Barge")) :: ([.fieldLink RX1 51 "StakeWeirs$Estuary" "bargeCount" "I", .fieldLink RX1 27 "StakeWeirs$Estuary" "barges" "[LStakeWeirs$Barge;"] ++ wsX10)
def wsX1_copyBarge : List Cond := .code yX1_copyBarge cX1_copyBarge 2 none :: ([.methodLink RX1 78 yX0_copyFrom, .instanceMethod yX0_copyFrom, .selects RX0 yX0_copyFrom yX0_copyFrom, .initialized RX0, .code yX0_copyFrom cX0_copyFrom 2 none, .fieldLink RX0 9 "StakeWeirs$Barge" "ticket" "I", .fieldLink RX0 15 "StakeWeirs$Barge" "wide" "I", .fieldLink RX0 18 "StakeWeirs$Barge" "place" "I", .fieldLink RX0 21 "StakeWeirs$Barge" "broken" "I"] ++ wsX00)
def wsX1_copyFrom_r1 : List Cond := [Cond.fieldLink RX1 9 "StakeWeirs$Estuary" "table" "[I", Cond.fieldLink RX1 15 "StakeWeirs$Estuary" "order" "[I", Cond.fieldLink RX1 39 "StakeWeirs$Estuary" "weirCount" "I", Cond.fieldLink RX1 51 "StakeWeirs$Estuary" "bargeCount" "I", Cond.fieldLink RX1 62 "StakeWeirs$Estuary" "night" "I", Cond.fieldLink RX1 65 "StakeWeirs$Estuary" "arrived" "I", Cond.fieldLink RX1 68 "StakeWeirs$Estuary" "fines" "I", Cond.fieldLink RX1 71 "StakeWeirs$Estuary" "rents" "I", Cond.methodLink RX1 32 yX1_tableEels, Cond.instanceMethod yX1_tableEels, Cond.selects RX1 yX1_tableEels yX1_tableEels, Cond.initialized RX1, Cond.code yX1_tableEels cX1_tableEels 2 (some .int), Cond.methodLink RX1 36 yX1_inOrder, Cond.instanceMethod yX1_inOrder, Cond.selects RX1 yX1_inOrder yX1_inOrder, Cond.code yX1_inOrder cX1_inOrder 2 (some .int), Cond.methodLink RX1 43 yX1_weirAt, Cond.instanceMethod yX1_weirAt, Cond.selects RX1 yX1_weirAt yX1_weirAt, Cond.code yX1_weirAt cX1_weirAt 3 (some (.object "StakeWeirs$Weir")), Cond.fieldLink RX1 20 "StakeWeirs$Estuary" "weirs" "[LStakeWeirs$Weir;", Cond.methodLink RX1 47 yX1_copyWeir, Cond.static yX1_copyWeir]
def wsX1_copyFrom_r2 : List Cond := [Cond.code yX1_copyWeir cX1_copyWeir 2 none, Cond.methodLink RX1 74 yX2_copyFrom, Cond.instanceMethod yX2_copyFrom, Cond.selects RX2 yX2_copyFrom yX2_copyFrom, Cond.initialized RX2, Cond.code yX2_copyFrom cX2_copyFrom 2 none, Cond.fieldLink RX2 9 "StakeWeirs$Weir" "place" "I", Cond.fieldLink RX2 15 "StakeWeirs$Weir" "stakes" "I", Cond.fieldLink RX2 18 "StakeWeirs$Weir" "wattle" "I", Cond.fieldLink RX2 21 "StakeWeirs$Weir" "rent" "I", Cond.fieldLink RX2 24 "StakeWeirs$Weir" "coins" "I", Cond.fieldLink RX2 27 "StakeWeirs$Weir" "eels" "I", Cond.fieldLink RX2 30 "StakeWeirs$Weir" "open" "Z", Cond.fieldLink RX2 34 "StakeWeirs$Weir" "owed" "I", Cond.methodLink RX1 54 yX1_bargeAt, Cond.instanceMethod yX1_bargeAt, Cond.selects RX1 yX1_bargeAt yX1_bargeAt, Cond.code yX1_bargeAt cX1_bargeAt 3 (some (.object "StakeWeirs$Barge")), Cond.fieldLink RX1 27 "StakeWeirs$Estuary" "barges" "[LStakeWeirs$Barge;", Cond.methodLink RX1 58 yX1_copyBarge, Cond.static yX1_copyBarge, Cond.code yX1_copyBarge cX1_copyBarge 2 none, Cond.methodLink RX1 78 yX0_copyFrom, Cond.instanceMethod yX0_copyFrom]
def wsX1_copyFrom_r3 : List Cond := [Cond.selects RX0 yX0_copyFrom yX0_copyFrom, Cond.initialized RX0, Cond.code yX0_copyFrom cX0_copyFrom 2 none, Cond.fieldLink RX0 9 "StakeWeirs$Barge" "ticket" "I", Cond.fieldLink RX0 15 "StakeWeirs$Barge" "wide" "I", Cond.fieldLink RX0 18 "StakeWeirs$Barge" "place" "I", Cond.fieldLink RX0 21 "StakeWeirs$Barge" "broken" "I"]
def wsX1_copyFrom : List Cond := .code yX1_copyFrom cX1_copyFrom 3 none :: ((wsX1_copyFrom_r1 ++ (wsX1_copyFrom_r2 ++ wsX1_copyFrom_r3)) ++ wsX10 ++ wsX20 ++ wsX00)
def wsX1_setTableEels : List Cond := .code yX1_setTableEels cX1_setTableEels 3 none :: ([.fieldLink RX1 9 "StakeWeirs$Estuary" "table" "[I"] ++ wsX10)
def wsX1_isSeawardsOf : List Cond := .code yX1_isSeawardsOf cX1_isSeawardsOf 4 (some .boolean) :: ([.fieldLink RX1 93 "StakeWeirs$Weir" "place" "I", .methodLink RX1 43 yX1_weirAt, .instanceMethod yX1_weirAt, .selects RX1 yX1_weirAt yX1_weirAt, .initialized RX1, .code yX1_weirAt cX1_weirAt 3 (some (.object "StakeWeirs$Weir")), .fieldLink RX1 39 "StakeWeirs$Estuary" "weirCount" "I", .fieldLink RX1 20 "StakeWeirs$Estuary" "weirs" "[LStakeWeirs$Weir;"] ++ wsX20 ++ wsX10)
def wsX1_putInOrder : List Cond := .code yX1_putInOrder cX1_putInOrder 4 none :: ([.fieldLink RX1 15 "StakeWeirs$Estuary" "order" "[I", .methodLink RX1 89 yX1_isSeawardsOf, .instanceMethod yX1_isSeawardsOf, .selects RX1 yX1_isSeawardsOf yX1_isSeawardsOf, .initialized RX1, .code yX1_isSeawardsOf cX1_isSeawardsOf 4 (some .boolean), .fieldLink RX1 93 "StakeWeirs$Weir" "place" "I", .methodLink RX1 43 yX1_weirAt, .instanceMethod yX1_weirAt, .selects RX1 yX1_weirAt yX1_weirAt, .code yX1_weirAt cX1_weirAt 3 (some (.object "StakeWeirs$Weir")), .fieldLink RX1 39 "StakeWeirs$Estuary" "weirCount" "I", .fieldLink RX1 20 "StakeWeirs$Estuary" "weirs" "[LStakeWeirs$Weir;"] ++ wsX10 ++ wsX20)
def wsX2_makeNew : List Cond := .code yX2_makeNew cX2_makeNew 4 none :: ([.fieldLink RX2 9 "StakeWeirs$Weir" "place" "I", .fieldLink RX2 15 "StakeWeirs$Weir" "stakes" "I", .fieldLink RX2 18 "StakeWeirs$Weir" "wattle" "I", .fieldLink RX2 21 "StakeWeirs$Weir" "rent" "I", .fieldLink RX2 24 "StakeWeirs$Weir" "coins" "I", .fieldLink RX2 27 "StakeWeirs$Weir" "eels" "I", .fieldLink RX2 30 "StakeWeirs$Weir" "open" "Z", .fieldLink RX2 34 "StakeWeirs$Weir" "owed" "I"] ++ wsX20)
def wsX1_addWeir_r1 : List Cond := [Cond.fieldLink RX1 39 "StakeWeirs$Estuary" "weirCount" "I", Cond.methodLink RX1 81 yX1_putInOrder, Cond.instanceMethod yX1_putInOrder, Cond.selects RX1 yX1_putInOrder yX1_putInOrder, Cond.initialized RX1, Cond.code yX1_putInOrder cX1_putInOrder 4 none, Cond.fieldLink RX1 15 "StakeWeirs$Estuary" "order" "[I", Cond.methodLink RX1 89 yX1_isSeawardsOf, Cond.instanceMethod yX1_isSeawardsOf, Cond.selects RX1 yX1_isSeawardsOf yX1_isSeawardsOf, Cond.code yX1_isSeawardsOf cX1_isSeawardsOf 4 (some .boolean), Cond.fieldLink RX1 93 "StakeWeirs$Weir" "place" "I", Cond.methodLink RX1 43 yX1_weirAt, Cond.instanceMethod yX1_weirAt, Cond.selects RX1 yX1_weirAt yX1_weirAt, Cond.code yX1_weirAt cX1_weirAt 3 (some (.object "StakeWeirs$Weir")), Cond.fieldLink RX1 20 "StakeWeirs$Estuary" "weirs" "[LStakeWeirs$Weir;", Cond.methodLink RX1 85 yX2_makeNew, Cond.instanceMethod yX2_makeNew, Cond.selects RX2 yX2_makeNew yX2_makeNew, Cond.initialized RX2, Cond.code yX2_makeNew cX2_makeNew 4 none, Cond.fieldLink RX2 9 "StakeWeirs$Weir" "place" "I", Cond.fieldLink RX2 15 "StakeWeirs$Weir" "stakes" "I"]
def wsX1_addWeir_r2 : List Cond := [Cond.fieldLink RX2 18 "StakeWeirs$Weir" "wattle" "I", Cond.fieldLink RX2 21 "StakeWeirs$Weir" "rent" "I", Cond.fieldLink RX2 24 "StakeWeirs$Weir" "coins" "I", Cond.fieldLink RX2 27 "StakeWeirs$Weir" "eels" "I", Cond.fieldLink RX2 30 "StakeWeirs$Weir" "open" "Z", Cond.fieldLink RX2 34 "StakeWeirs$Weir" "owed" "I"]
def wsX1_addWeir : List Cond := .code yX1_addWeir cX1_addWeir 6 (some .int) :: ((wsX1_addWeir_r1 ++ wsX1_addWeir_r2) ++ wsX10 ++ wsX20)
def wsX1_addBarge : List Cond := .code yX1_addBarge cX1_addBarge 4 (some .int) :: ([.fieldLink RX1 51 "StakeWeirs$Estuary" "bargeCount" "I", .fieldLink RX1 65 "StakeWeirs$Estuary" "arrived" "I", .methodLink RX1 54 yX1_bargeAt, .instanceMethod yX1_bargeAt, .selects RX1 yX1_bargeAt yX1_bargeAt, .initialized RX1, .code yX1_bargeAt cX1_bargeAt 3 (some (.object "StakeWeirs$Barge")), .fieldLink RX1 27 "StakeWeirs$Estuary" "barges" "[LStakeWeirs$Barge;", .methodLink RX1 96 yX0_makeNew, .instanceMethod yX0_makeNew, .selects RX0 yX0_makeNew yX0_makeNew, .initialized RX0, .code yX0_makeNew cX0_makeNew 3 none, .fieldLink RX0 9 "StakeWeirs$Barge" "ticket" "I", .fieldLink RX0 15 "StakeWeirs$Barge" "wide" "I", .fieldLink RX0 18 "StakeWeirs$Barge" "place" "I", .fieldLink RX0 21 "StakeWeirs$Barge" "broken" "I"] ++ wsX10 ++ wsX00)
def wsX1_isUnderWay : List Cond := .code yX1_isUnderWay cX1_isUnderWay 4 (some .boolean) :: ([.fieldLink RX1 51 "StakeWeirs$Estuary" "bargeCount" "I", .fieldLink RX1 98 "StakeWeirs$Barge" "ticket" "I", .methodLink RX1 54 yX1_bargeAt, .instanceMethod yX1_bargeAt, .selects RX1 yX1_bargeAt yX1_bargeAt, .initialized RX1, .code yX1_bargeAt cX1_bargeAt 3 (some (.object "StakeWeirs$Barge")), .fieldLink RX1 27 "StakeWeirs$Estuary" "barges" "[LStakeWeirs$Barge;"] ++ wsX10 ++ wsX00)
def wsJ9_floorMod_7cf53 : List Cond := .code yJ9_floorMod_7cf53 cJ9_floorMod_7cf53 3 (some .int) :: ([])
def wsX1_moon : List Cond := .code yX1_moon cX1_moon 2 (some .int) :: ([.fieldLink RX1 62 "StakeWeirs$Estuary" "night" "I", .methodLink RX1 101 yJ9_floorMod_7cf53, .static yJ9_floorMod_7cf53, .initialized RJ9, .code yJ9_floorMod_7cf53 cJ9_floorMod_7cf53 3 (some .int)] ++ wsX10)
def wsX1_run : List Cond := .code yX1_run cX1_run 3 (some .int) :: ([.fieldLink RX1 62 "StakeWeirs$Estuary" "night" "I", .methodLink RX1 101 yJ9_floorMod_7cf53, .static yJ9_floorMod_7cf53, .initialized RJ9, .code yJ9_floorMod_7cf53 cJ9_floorMod_7cf53 3 (some .int), .methodLink RX1 32 yX1_tableEels, .instanceMethod yX1_tableEels, .selects RX1 yX1_tableEels yX1_tableEels, .initialized RX1, .code yX1_tableEels cX1_tableEels 2 (some .int), .fieldLink RX1 9 "StakeWeirs$Estuary" "table" "[I", .methodLink RX1 107 yX1_moon, .instanceMethod yX1_moon, .selects RX1 yX1_moon yX1_moon, .code yX1_moon cX1_moon 2 (some .int)] ++ wsX10)
def wsX2_isHeld : List Cond := .code yX2_isHeld cX2_isHeld 1 (some .boolean) :: ([.fieldLink RX2 34 "StakeWeirs$Weir" "owed" "I"] ++ wsX20)
def wsX1_heldWeirs : List Cond := .code yX1_heldWeirs cX1_heldWeirs 4 (some .int) :: ([.fieldLink RX1 39 "StakeWeirs$Estuary" "weirCount" "I", .methodLink RX1 43 yX1_weirAt, .instanceMethod yX1_weirAt, .selects RX1 yX1_weirAt yX1_weirAt, .initialized RX1, .code yX1_weirAt cX1_weirAt 3 (some (.object "StakeWeirs$Weir")), .fieldLink RX1 20 "StakeWeirs$Estuary" "weirs" "[LStakeWeirs$Weir;", .methodLink RX1 131 yX2_isHeld, .instanceMethod yX2_isHeld, .selects RX2 yX2_isHeld yX2_isHeld, .initialized RX2, .code yX2_isHeld cX2_isHeld 1 (some .boolean), .fieldLink RX2 34 "StakeWeirs$Weir" "owed" "I"] ++ wsX10 ++ wsX20)
def wsX1_allEels : List Cond := .code yX1_allEels cX1_allEels 4 (some .int) :: ([.fieldLink RX1 39 "StakeWeirs$Estuary" "weirCount" "I", .fieldLink RX1 138 "StakeWeirs$Weir" "eels" "I", .methodLink RX1 43 yX1_weirAt, .instanceMethod yX1_weirAt, .selects RX1 yX1_weirAt yX1_weirAt, .initialized RX1, .code yX1_weirAt cX1_weirAt 3 (some (.object "StakeWeirs$Weir")), .fieldLink RX1 20 "StakeWeirs$Estuary" "weirs" "[LStakeWeirs$Weir;"] ++ wsX10 ++ wsX20)
def wsX1_fact_r1 : List Cond := [Cond.fieldLink RX1 62 "StakeWeirs$Estuary" "night" "I", Cond.fieldLink RX1 39 "StakeWeirs$Estuary" "weirCount" "I", Cond.fieldLink RX1 51 "StakeWeirs$Estuary" "bargeCount" "I", Cond.fieldLink RX1 65 "StakeWeirs$Estuary" "arrived" "I", Cond.fieldLink RX1 68 "StakeWeirs$Estuary" "fines" "I", Cond.fieldLink RX1 71 "StakeWeirs$Estuary" "rents" "I", Cond.methodLink RX1 107 yX1_moon, Cond.instanceMethod yX1_moon, Cond.selects RX1 yX1_moon yX1_moon, Cond.initialized RX1, Cond.code yX1_moon cX1_moon 2 (some .int), Cond.methodLink RX1 101 yJ9_floorMod_7cf53, Cond.static yJ9_floorMod_7cf53, Cond.initialized RJ9, Cond.code yJ9_floorMod_7cf53 cJ9_floorMod_7cf53 3 (some .int), Cond.methodLink RX1 111 yX1_run, Cond.instanceMethod yX1_run, Cond.selects RX1 yX1_run yX1_run, Cond.code yX1_run cX1_run 3 (some .int), Cond.methodLink RX1 32 yX1_tableEels, Cond.instanceMethod yX1_tableEels, Cond.selects RX1 yX1_tableEels yX1_tableEels, Cond.code yX1_tableEels cX1_tableEels 2 (some .int), Cond.fieldLink RX1 9 "StakeWeirs$Estuary" "table" "[I"]
def wsX1_fact_r2 : List Cond := [Cond.methodLink RX1 114 yX1_heldWeirs, Cond.instanceMethod yX1_heldWeirs, Cond.selects RX1 yX1_heldWeirs yX1_heldWeirs, Cond.code yX1_heldWeirs cX1_heldWeirs 4 (some .int), Cond.methodLink RX1 43 yX1_weirAt, Cond.instanceMethod yX1_weirAt, Cond.selects RX1 yX1_weirAt yX1_weirAt, Cond.code yX1_weirAt cX1_weirAt 3 (some (.object "StakeWeirs$Weir")), Cond.fieldLink RX1 20 "StakeWeirs$Estuary" "weirs" "[LStakeWeirs$Weir;", Cond.methodLink RX1 131 yX2_isHeld, Cond.instanceMethod yX2_isHeld, Cond.selects RX2 yX2_isHeld yX2_isHeld, Cond.initialized RX2, Cond.code yX2_isHeld cX2_isHeld 1 (some .boolean), Cond.fieldLink RX2 34 "StakeWeirs$Weir" "owed" "I", Cond.methodLink RX1 117 yX1_allEels, Cond.instanceMethod yX1_allEels, Cond.selects RX1 yX1_allEels yX1_allEels, Cond.code yX1_allEels cX1_allEels 4 (some .int), Cond.fieldLink RX1 138 "StakeWeirs$Weir" "eels" "I"]
def wsX1_fact : List Cond := .code yX1_fact cX1_fact 2 (some .int) :: ((wsX1_fact_r1 ++ wsX1_fact_r2) ++ wsX10 ++ wsX20)
def wsX2_isFishing : List Cond := .code yX2_isFishing cX2_isFishing 1 (some .boolean) :: ([.fieldLink RX2 34 "StakeWeirs$Weir" "owed" "I", .fieldLink RX2 30 "StakeWeirs$Weir" "open" "Z"] ++ wsX20)
def wsX2_isInWay : List Cond := .code yX2_isInWay cX2_isInWay 2 (some .boolean) :: ([.fieldLink RX2 15 "StakeWeirs$Weir" "stakes" "I", .methodLink RX2 37 yX2_isFishing, .instanceMethod yX2_isFishing, .selects RX2 yX2_isFishing yX2_isFishing, .initialized RX2, .code yX2_isFishing cX2_isFishing 1 (some .boolean), .fieldLink RX2 34 "StakeWeirs$Weir" "owed" "I", .fieldLink RX2 30 "StakeWeirs$Weir" "open" "Z"] ++ wsX20)
def wsX1_nextInWay : List Cond := .code yX1_nextInWay cX1_nextInWay 6 (some .int) :: ([.fieldLink RX1 39 "StakeWeirs$Estuary" "weirCount" "I", .fieldLink RX1 93 "StakeWeirs$Weir" "place" "I", .fieldLink RX1 123 "StakeWeirs$Barge" "place" "I", .fieldLink RX1 120 "StakeWeirs$Barge" "wide" "I", .methodLink RX1 43 yX1_weirAt, .instanceMethod yX1_weirAt, .selects RX1 yX1_weirAt yX1_weirAt, .initialized RX1, .code yX1_weirAt cX1_weirAt 3 (some (.object "StakeWeirs$Weir")), .fieldLink RX1 20 "StakeWeirs$Estuary" "weirs" "[LStakeWeirs$Weir;", .methodLink RX1 141 yX2_isInWay, .instanceMethod yX2_isInWay, .selects RX2 yX2_isInWay yX2_isInWay, .initialized RX2, .code yX2_isInWay cX2_isInWay 2 (some .boolean), .fieldLink RX2 15 "StakeWeirs$Weir" "stakes" "I", .methodLink RX2 37 yX2_isFishing, .instanceMethod yX2_isFishing, .selects RX2 yX2_isFishing yX2_isFishing, .code yX2_isFishing cX2_isFishing 1 (some .boolean), .fieldLink RX2 34 "StakeWeirs$Weir" "owed" "I", .fieldLink RX2 30 "StakeWeirs$Weir" "open" "Z"] ++ wsX10 ++ wsX20 ++ wsX00)
def wsX1_bargeFact_r1 : List Cond := [Cond.fieldLink RX1 120 "StakeWeirs$Barge" "wide" "I", Cond.fieldLink RX1 123 "StakeWeirs$Barge" "place" "I", Cond.fieldLink RX1 124 "StakeWeirs$Barge" "broken" "I", Cond.methodLink RX1 127 yX1_nextInWay, Cond.instanceMethod yX1_nextInWay, Cond.selects RX1 yX1_nextInWay yX1_nextInWay, Cond.initialized RX1, Cond.code yX1_nextInWay cX1_nextInWay 6 (some .int), Cond.fieldLink RX1 39 "StakeWeirs$Estuary" "weirCount" "I", Cond.fieldLink RX1 93 "StakeWeirs$Weir" "place" "I", Cond.methodLink RX1 43 yX1_weirAt, Cond.instanceMethod yX1_weirAt, Cond.selects RX1 yX1_weirAt yX1_weirAt, Cond.code yX1_weirAt cX1_weirAt 3 (some (.object "StakeWeirs$Weir")), Cond.fieldLink RX1 20 "StakeWeirs$Estuary" "weirs" "[LStakeWeirs$Weir;", Cond.methodLink RX1 141 yX2_isInWay, Cond.instanceMethod yX2_isInWay, Cond.selects RX2 yX2_isInWay yX2_isInWay, Cond.initialized RX2, Cond.code yX2_isInWay cX2_isInWay 2 (some .boolean), Cond.fieldLink RX2 15 "StakeWeirs$Weir" "stakes" "I", Cond.methodLink RX2 37 yX2_isFishing, Cond.instanceMethod yX2_isFishing, Cond.selects RX2 yX2_isFishing yX2_isFishing]
def wsX1_bargeFact_r2 : List Cond := [Cond.code yX2_isFishing cX2_isFishing 1 (some .boolean), Cond.fieldLink RX2 34 "StakeWeirs$Weir" "owed" "I", Cond.fieldLink RX2 30 "StakeWeirs$Weir" "open" "Z"]
def wsX1_bargeFact : List Cond := .code yX1_bargeFact cX1_bargeFact 3 (some .int) :: ((wsX1_bargeFact_r1 ++ wsX1_bargeFact_r2) ++ wsX00 ++ wsX10 ++ wsX20)
def wsX1_heldWattle : List Cond := .code yX1_heldWattle cX1_heldWattle 4 (some .int) :: ([.fieldLink RX1 39 "StakeWeirs$Estuary" "weirCount" "I", .fieldLink RX1 135 "StakeWeirs$Weir" "wattle" "I", .methodLink RX1 43 yX1_weirAt, .instanceMethod yX1_weirAt, .selects RX1 yX1_weirAt yX1_weirAt, .initialized RX1, .code yX1_weirAt cX1_weirAt 3 (some (.object "StakeWeirs$Weir")), .fieldLink RX1 20 "StakeWeirs$Estuary" "weirs" "[LStakeWeirs$Weir;", .methodLink RX1 131 yX2_isHeld, .instanceMethod yX2_isHeld, .selects RX2 yX2_isHeld yX2_isHeld, .initialized RX2, .code yX2_isHeld cX2_isHeld 1 (some .boolean), .fieldLink RX2 34 "StakeWeirs$Weir" "owed" "I"] ++ wsX10 ++ wsX20)
def wsX1_weirsInWay : List Cond := .code yX1_weirsInWay cX1_weirsInWay 5 (some .int) :: ([.fieldLink RX1 39 "StakeWeirs$Estuary" "weirCount" "I", .methodLink RX1 43 yX1_weirAt, .instanceMethod yX1_weirAt, .selects RX1 yX1_weirAt yX1_weirAt, .initialized RX1, .code yX1_weirAt cX1_weirAt 3 (some (.object "StakeWeirs$Weir")), .fieldLink RX1 20 "StakeWeirs$Estuary" "weirs" "[LStakeWeirs$Weir;", .methodLink RX1 141 yX2_isInWay, .instanceMethod yX2_isInWay, .selects RX2 yX2_isInWay yX2_isInWay, .initialized RX2, .code yX2_isInWay cX2_isInWay 2 (some .boolean), .fieldLink RX2 15 "StakeWeirs$Weir" "stakes" "I", .methodLink RX2 37 yX2_isFishing, .instanceMethod yX2_isFishing, .selects RX2 yX2_isFishing yX2_isFishing, .code yX2_isFishing cX2_isFishing 1 (some .boolean), .fieldLink RX2 34 "StakeWeirs$Weir" "owed" "I", .fieldLink RX2 30 "StakeWeirs$Weir" "open" "Z"] ++ wsX10 ++ wsX20)
def wsX1_richestHeld : List Cond := .code yX1_richestHeld cX1_richestHeld 5 (some .int) :: ([.fieldLink RX1 39 "StakeWeirs$Estuary" "weirCount" "I", .fieldLink RX1 145 "StakeWeirs$Weir" "coins" "I", .methodLink RX1 43 yX1_weirAt, .instanceMethod yX1_weirAt, .selects RX1 yX1_weirAt yX1_weirAt, .initialized RX1, .code yX1_weirAt cX1_weirAt 3 (some (.object "StakeWeirs$Weir")), .fieldLink RX1 20 "StakeWeirs$Estuary" "weirs" "[LStakeWeirs$Weir;", .methodLink RX1 131 yX2_isHeld, .instanceMethod yX2_isHeld, .selects RX2 yX2_isHeld yX2_isHeld, .initialized RX2, .code yX2_isHeld cX2_isHeld 1 (some .boolean), .fieldLink RX2 34 "StakeWeirs$Weir" "owed" "I"] ++ wsX10 ++ wsX20)
def wsX2_catchOf : List Cond := .code yX2_catchOf cX2_catchOf 3 (some .int) :: ([.fieldLink RX2 15 "StakeWeirs$Weir" "stakes" "I", .fieldLink RX2 18 "StakeWeirs$Weir" "wattle" "I", .fieldLink RX2 27 "StakeWeirs$Weir" "eels" "I", .methodLink RX2 41 Lib.Math.min.name, .static Lib.Math.min.name, .initialized "java/lang/Math", .code Lib.Math.min.name Lib.Math.min.code 2 (some .int)] ++ wsX20)
def wsX1_catchEels_r1 : List Cond := [Cond.fieldLink RX1 39 "StakeWeirs$Estuary" "weirCount" "I", Cond.methodLink RX1 111 yX1_run, Cond.instanceMethod yX1_run, Cond.selects RX1 yX1_run yX1_run, Cond.initialized RX1, Cond.code yX1_run cX1_run 3 (some .int), Cond.fieldLink RX1 62 "StakeWeirs$Estuary" "night" "I", Cond.methodLink RX1 101 yJ9_floorMod_7cf53, Cond.static yJ9_floorMod_7cf53, Cond.initialized RJ9, Cond.code yJ9_floorMod_7cf53 cJ9_floorMod_7cf53 3 (some .int), Cond.methodLink RX1 32 yX1_tableEels, Cond.instanceMethod yX1_tableEels, Cond.selects RX1 yX1_tableEels yX1_tableEels, Cond.code yX1_tableEels cX1_tableEels 2 (some .int), Cond.fieldLink RX1 9 "StakeWeirs$Estuary" "table" "[I", Cond.methodLink RX1 107 yX1_moon, Cond.instanceMethod yX1_moon, Cond.selects RX1 yX1_moon yX1_moon, Cond.code yX1_moon cX1_moon 2 (some .int), Cond.methodLink RX1 36 yX1_inOrder, Cond.instanceMethod yX1_inOrder, Cond.selects RX1 yX1_inOrder yX1_inOrder, Cond.code yX1_inOrder cX1_inOrder 2 (some .int)]
def wsX1_catchEels_r2 : List Cond := [Cond.fieldLink RX1 15 "StakeWeirs$Estuary" "order" "[I", Cond.methodLink RX1 43 yX1_weirAt, Cond.instanceMethod yX1_weirAt, Cond.selects RX1 yX1_weirAt yX1_weirAt, Cond.code yX1_weirAt cX1_weirAt 3 (some (.object "StakeWeirs$Weir")), Cond.fieldLink RX1 20 "StakeWeirs$Estuary" "weirs" "[LStakeWeirs$Weir;", Cond.methodLink RX1 163 yX2_isFishing, Cond.instanceMethod yX2_isFishing, Cond.selects RX2 yX2_isFishing yX2_isFishing, Cond.initialized RX2, Cond.code yX2_isFishing cX2_isFishing 1 (some .boolean), Cond.fieldLink RX2 34 "StakeWeirs$Weir" "owed" "I", Cond.fieldLink RX2 30 "StakeWeirs$Weir" "open" "Z", Cond.methodLink RX1 166 yX2_catchOf, Cond.instanceMethod yX2_catchOf, Cond.selects RX2 yX2_catchOf yX2_catchOf, Cond.code yX2_catchOf cX2_catchOf 3 (some .int), Cond.fieldLink RX2 15 "StakeWeirs$Weir" "stakes" "I", Cond.fieldLink RX2 18 "StakeWeirs$Weir" "wattle" "I", Cond.fieldLink RX2 27 "StakeWeirs$Weir" "eels" "I", Cond.methodLink RX2 41 Lib.Math.min.name, Cond.static Lib.Math.min.name, Cond.initialized "java/lang/Math", Cond.code Lib.Math.min.name Lib.Math.min.code 2 (some .int)]
def wsX1_catchEels : List Cond := .code yX1_catchEels cX1_catchEels 4 none :: ((wsX1_catchEels_r1 ++ wsX1_catchEels_r2) ++ wsX10 ++ wsX20)
def wsX2_loseWattle : List Cond := .code yX2_loseWattle cX2_loseWattle 2 none :: ([.fieldLink RX2 18 "StakeWeirs$Weir" "wattle" "I"] ++ wsX20)
def wsX2_breakFor : List Cond := .code yX2_breakFor cX2_breakFor 3 (some .int) :: ([.fieldLink RX2 15 "StakeWeirs$Weir" "stakes" "I", .fieldLink RX2 24 "StakeWeirs$Weir" "coins" "I", .methodLink RX2 41 Lib.Math.min.name, .static Lib.Math.min.name, .initialized "java/lang/Math", .code Lib.Math.min.name Lib.Math.min.code 2 (some .int), .methodLink RX2 47 yX2_loseWattle, .instanceMethod yX2_loseWattle, .selects RX2 yX2_loseWattle yX2_loseWattle, .initialized RX2, .code yX2_loseWattle cX2_loseWattle 2 none, .fieldLink RX2 18 "StakeWeirs$Weir" "wattle" "I"] ++ wsX20)
def wsX1_breakThrough_r1 : List Cond := [Cond.fieldLink RX1 39 "StakeWeirs$Estuary" "weirCount" "I", Cond.fieldLink RX1 93 "StakeWeirs$Weir" "place" "I", Cond.fieldLink RX1 123 "StakeWeirs$Barge" "place" "I", Cond.fieldLink RX1 120 "StakeWeirs$Barge" "wide" "I", Cond.fieldLink RX1 68 "StakeWeirs$Estuary" "fines" "I", Cond.fieldLink RX1 124 "StakeWeirs$Barge" "broken" "I", Cond.methodLink RX1 43 yX1_weirAt, Cond.instanceMethod yX1_weirAt, Cond.selects RX1 yX1_weirAt yX1_weirAt, Cond.initialized RX1, Cond.code yX1_weirAt cX1_weirAt 3 (some (.object "StakeWeirs$Weir")), Cond.fieldLink RX1 20 "StakeWeirs$Estuary" "weirs" "[LStakeWeirs$Weir;", Cond.methodLink RX1 141 yX2_isInWay, Cond.instanceMethod yX2_isInWay, Cond.selects RX2 yX2_isInWay yX2_isInWay, Cond.initialized RX2, Cond.code yX2_isInWay cX2_isInWay 2 (some .boolean), Cond.fieldLink RX2 15 "StakeWeirs$Weir" "stakes" "I", Cond.methodLink RX2 37 yX2_isFishing, Cond.instanceMethod yX2_isFishing, Cond.selects RX2 yX2_isFishing yX2_isFishing, Cond.code yX2_isFishing cX2_isFishing 1 (some .boolean), Cond.fieldLink RX2 34 "StakeWeirs$Weir" "owed" "I", Cond.fieldLink RX2 30 "StakeWeirs$Weir" "open" "Z"]
def wsX1_breakThrough_r2 : List Cond := [Cond.methodLink RX1 176 yX2_breakFor, Cond.instanceMethod yX2_breakFor, Cond.selects RX2 yX2_breakFor yX2_breakFor, Cond.code yX2_breakFor cX2_breakFor 3 (some .int), Cond.fieldLink RX2 24 "StakeWeirs$Weir" "coins" "I", Cond.methodLink RX2 41 Lib.Math.min.name, Cond.static Lib.Math.min.name, Cond.initialized "java/lang/Math", Cond.code Lib.Math.min.name Lib.Math.min.code 2 (some .int), Cond.methodLink RX2 47 yX2_loseWattle, Cond.instanceMethod yX2_loseWattle, Cond.selects RX2 yX2_loseWattle yX2_loseWattle, Cond.code yX2_loseWattle cX2_loseWattle 2 none, Cond.fieldLink RX2 18 "StakeWeirs$Weir" "wattle" "I"]
def wsX1_breakThrough : List Cond := .code yX1_breakThrough cX1_breakThrough 4 none :: ((wsX1_breakThrough_r1 ++ wsX1_breakThrough_r2) ++ wsX10 ++ wsX20 ++ wsX00)
def wsX1_moveBarges_r1 : List Cond := [Cond.fieldLink RX1 51 "StakeWeirs$Estuary" "bargeCount" "I", Cond.fieldLink RX1 93 "StakeWeirs$Weir" "place" "I", Cond.methodLink RX1 54 yX1_bargeAt, Cond.instanceMethod yX1_bargeAt, Cond.selects RX1 yX1_bargeAt yX1_bargeAt, Cond.initialized RX1, Cond.code yX1_bargeAt cX1_bargeAt 3 (some (.object "StakeWeirs$Barge")), Cond.fieldLink RX1 27 "StakeWeirs$Estuary" "barges" "[LStakeWeirs$Barge;", Cond.methodLink RX1 127 yX1_nextInWay, Cond.instanceMethod yX1_nextInWay, Cond.selects RX1 yX1_nextInWay yX1_nextInWay, Cond.code yX1_nextInWay cX1_nextInWay 6 (some .int), Cond.fieldLink RX1 39 "StakeWeirs$Estuary" "weirCount" "I", Cond.fieldLink RX1 123 "StakeWeirs$Barge" "place" "I", Cond.fieldLink RX1 120 "StakeWeirs$Barge" "wide" "I", Cond.methodLink RX1 43 yX1_weirAt, Cond.instanceMethod yX1_weirAt, Cond.selects RX1 yX1_weirAt yX1_weirAt, Cond.code yX1_weirAt cX1_weirAt 3 (some (.object "StakeWeirs$Weir")), Cond.fieldLink RX1 20 "StakeWeirs$Estuary" "weirs" "[LStakeWeirs$Weir;", Cond.methodLink RX1 141 yX2_isInWay, Cond.instanceMethod yX2_isInWay, Cond.selects RX2 yX2_isInWay yX2_isInWay, Cond.initialized RX2]
def wsX1_moveBarges_r2 : List Cond := [Cond.code yX2_isInWay cX2_isInWay 2 (some .boolean), Cond.fieldLink RX2 15 "StakeWeirs$Weir" "stakes" "I", Cond.methodLink RX2 37 yX2_isFishing, Cond.instanceMethod yX2_isFishing, Cond.selects RX2 yX2_isFishing yX2_isFishing, Cond.code yX2_isFishing cX2_isFishing 1 (some .boolean), Cond.fieldLink RX2 34 "StakeWeirs$Weir" "owed" "I", Cond.fieldLink RX2 30 "StakeWeirs$Weir" "open" "Z", Cond.methodLink RX1 169 yX0_goOn, Cond.instanceMethod yX0_goOn, Cond.selects RX0 yX0_goOn yX0_goOn, Cond.initialized RX0, Cond.code yX0_goOn cX0_goOn 2 none, Cond.fieldLink RX0 18 "StakeWeirs$Barge" "place" "I", Cond.methodLink RX0 24 Lib.Math.min.name, Cond.static Lib.Math.min.name, Cond.initialized "java/lang/Math", Cond.code Lib.Math.min.name Lib.Math.min.code 2 (some .int), Cond.methodLink RX1 173 yX1_breakThrough, Cond.instanceMethod yX1_breakThrough, Cond.selects RX1 yX1_breakThrough yX1_breakThrough, Cond.code yX1_breakThrough cX1_breakThrough 4 none, Cond.fieldLink RX1 68 "StakeWeirs$Estuary" "fines" "I", Cond.fieldLink RX1 124 "StakeWeirs$Barge" "broken" "I"]
def wsX1_moveBarges_r3 : List Cond := [Cond.methodLink RX1 176 yX2_breakFor, Cond.instanceMethod yX2_breakFor, Cond.selects RX2 yX2_breakFor yX2_breakFor, Cond.code yX2_breakFor cX2_breakFor 3 (some .int), Cond.fieldLink RX2 24 "StakeWeirs$Weir" "coins" "I", Cond.methodLink RX2 41 Lib.Math.min.name, Cond.methodLink RX2 47 yX2_loseWattle, Cond.instanceMethod yX2_loseWattle, Cond.selects RX2 yX2_loseWattle yX2_loseWattle, Cond.code yX2_loseWattle cX2_loseWattle 2 none, Cond.fieldLink RX2 18 "StakeWeirs$Weir" "wattle" "I"]
def wsX1_moveBarges : List Cond := .code yX1_moveBarges cX1_moveBarges 4 none :: ((wsX1_moveBarges_r1 ++ (wsX1_moveBarges_r2 ++ wsX1_moveBarges_r3)) ++ wsX10 ++ wsX20 ++ wsX00)
def wsX1_leaveOutArrived : List Cond := .code yX1_leaveOutArrived cX1_leaveOutArrived 4 none :: ([.fieldLink RX1 51 "StakeWeirs$Estuary" "bargeCount" "I", .fieldLink RX1 123 "StakeWeirs$Barge" "place" "I", .fieldLink RX1 65 "StakeWeirs$Estuary" "arrived" "I", .methodLink RX1 54 yX1_bargeAt, .instanceMethod yX1_bargeAt, .selects RX1 yX1_bargeAt yX1_bargeAt, .initialized RX1, .code yX1_bargeAt cX1_bargeAt 3 (some (.object "StakeWeirs$Barge")), .fieldLink RX1 27 "StakeWeirs$Estuary" "barges" "[LStakeWeirs$Barge;", .methodLink RX1 58 yX1_copyBarge, .static yX1_copyBarge, .code yX1_copyBarge cX1_copyBarge 2 none, .methodLink RX1 78 yX0_copyFrom, .instanceMethod yX0_copyFrom, .selects RX0 yX0_copyFrom yX0_copyFrom, .initialized RX0, .code yX0_copyFrom cX0_copyFrom 2 none, .fieldLink RX0 9 "StakeWeirs$Barge" "ticket" "I", .fieldLink RX0 15 "StakeWeirs$Barge" "wide" "I", .fieldLink RX0 18 "StakeWeirs$Barge" "place" "I", .fieldLink RX0 21 "StakeWeirs$Barge" "broken" "I"] ++ wsX10 ++ wsX00)
def wsX1_rotWattle_r1 : List Cond := [Cond.fieldLink RX1 39 "StakeWeirs$Estuary" "weirCount" "I", Cond.methodLink RX1 107 yX1_moon, Cond.instanceMethod yX1_moon, Cond.selects RX1 yX1_moon yX1_moon, Cond.initialized RX1, Cond.code yX1_moon cX1_moon 2 (some .int), Cond.fieldLink RX1 62 "StakeWeirs$Estuary" "night" "I", Cond.methodLink RX1 101 yJ9_floorMod_7cf53, Cond.static yJ9_floorMod_7cf53, Cond.initialized RJ9, Cond.code yJ9_floorMod_7cf53 cJ9_floorMod_7cf53 3 (some .int), Cond.methodLink RX1 43 yX1_weirAt, Cond.instanceMethod yX1_weirAt, Cond.selects RX1 yX1_weirAt yX1_weirAt, Cond.code yX1_weirAt cX1_weirAt 3 (some (.object "StakeWeirs$Weir")), Cond.fieldLink RX1 20 "StakeWeirs$Estuary" "weirs" "[LStakeWeirs$Weir;", Cond.methodLink RX1 131 yX2_isHeld, Cond.instanceMethod yX2_isHeld, Cond.selects RX2 yX2_isHeld yX2_isHeld, Cond.initialized RX2, Cond.code yX2_isHeld cX2_isHeld 1 (some .boolean), Cond.fieldLink RX2 34 "StakeWeirs$Weir" "owed" "I", Cond.methodLink RX1 179 yX2_loseWattle, Cond.instanceMethod yX2_loseWattle]
def wsX1_rotWattle_r2 : List Cond := [Cond.selects RX2 yX2_loseWattle yX2_loseWattle, Cond.code yX2_loseWattle cX2_loseWattle 2 none, Cond.fieldLink RX2 18 "StakeWeirs$Weir" "wattle" "I"]
def wsX1_rotWattle : List Cond := .code yX1_rotWattle cX1_rotWattle 4 none :: ((wsX1_rotWattle_r1 ++ wsX1_rotWattle_r2) ++ wsX10 ++ wsX20)
def wsX2_payRent : List Cond := .code yX2_payRent cX2_payRent 1 (some .int) :: ([.fieldLink RX2 24 "StakeWeirs$Weir" "coins" "I", .fieldLink RX2 21 "StakeWeirs$Weir" "rent" "I", .fieldLink RX2 34 "StakeWeirs$Weir" "owed" "I", .fieldLink RX2 27 "StakeWeirs$Weir" "eels" "I"] ++ wsX20)
def wsX1_collectRents : List Cond := .code yX1_collectRents cX1_collectRents 3 none :: ([.fieldLink RX1 39 "StakeWeirs$Estuary" "weirCount" "I", .fieldLink RX1 71 "StakeWeirs$Estuary" "rents" "I", .methodLink RX1 43 yX1_weirAt, .instanceMethod yX1_weirAt, .selects RX1 yX1_weirAt yX1_weirAt, .initialized RX1, .code yX1_weirAt cX1_weirAt 3 (some (.object "StakeWeirs$Weir")), .fieldLink RX1 20 "StakeWeirs$Estuary" "weirs" "[LStakeWeirs$Weir;", .methodLink RX1 131 yX2_isHeld, .instanceMethod yX2_isHeld, .selects RX2 yX2_isHeld yX2_isHeld, .initialized RX2, .code yX2_isHeld cX2_isHeld 1 (some .boolean), .fieldLink RX2 34 "StakeWeirs$Weir" "owed" "I", .methodLink RX1 182 yX2_payRent, .instanceMethod yX2_payRent, .selects RX2 yX2_payRent yX2_payRent, .code yX2_payRent cX2_payRent 1 (some .int), .fieldLink RX2 24 "StakeWeirs$Weir" "coins" "I", .fieldLink RX2 21 "StakeWeirs$Weir" "rent" "I", .fieldLink RX2 27 "StakeWeirs$Weir" "eels" "I"] ++ wsX10 ++ wsX20)
def wsX1_goThroughNights_r1 : List Cond := [Cond.fieldLink RX1 62 "StakeWeirs$Estuary" "night" "I", Cond.methodLink RX1 148 yX1_catchEels, Cond.instanceMethod yX1_catchEels, Cond.selects RX1 yX1_catchEels yX1_catchEels, Cond.initialized RX1, Cond.code yX1_catchEels cX1_catchEels 4 none, Cond.fieldLink RX1 39 "StakeWeirs$Estuary" "weirCount" "I", Cond.methodLink RX1 111 yX1_run, Cond.instanceMethod yX1_run, Cond.selects RX1 yX1_run yX1_run, Cond.code yX1_run cX1_run 3 (some .int), Cond.methodLink RX1 101 yJ9_floorMod_7cf53, Cond.static yJ9_floorMod_7cf53, Cond.initialized RJ9, Cond.code yJ9_floorMod_7cf53 cJ9_floorMod_7cf53 3 (some .int), Cond.methodLink RX1 32 yX1_tableEels, Cond.instanceMethod yX1_tableEels, Cond.selects RX1 yX1_tableEels yX1_tableEels, Cond.code yX1_tableEels cX1_tableEels 2 (some .int), Cond.fieldLink RX1 9 "StakeWeirs$Estuary" "table" "[I", Cond.methodLink RX1 107 yX1_moon, Cond.instanceMethod yX1_moon, Cond.selects RX1 yX1_moon yX1_moon, Cond.code yX1_moon cX1_moon 2 (some .int)]
def wsX1_goThroughNights_r2 : List Cond := [Cond.methodLink RX1 36 yX1_inOrder, Cond.instanceMethod yX1_inOrder, Cond.selects RX1 yX1_inOrder yX1_inOrder, Cond.code yX1_inOrder cX1_inOrder 2 (some .int), Cond.fieldLink RX1 15 "StakeWeirs$Estuary" "order" "[I", Cond.methodLink RX1 43 yX1_weirAt, Cond.instanceMethod yX1_weirAt, Cond.selects RX1 yX1_weirAt yX1_weirAt, Cond.code yX1_weirAt cX1_weirAt 3 (some (.object "StakeWeirs$Weir")), Cond.fieldLink RX1 20 "StakeWeirs$Estuary" "weirs" "[LStakeWeirs$Weir;", Cond.methodLink RX1 163 yX2_isFishing, Cond.instanceMethod yX2_isFishing, Cond.selects RX2 yX2_isFishing yX2_isFishing, Cond.initialized RX2, Cond.code yX2_isFishing cX2_isFishing 1 (some .boolean), Cond.fieldLink RX2 34 "StakeWeirs$Weir" "owed" "I", Cond.fieldLink RX2 30 "StakeWeirs$Weir" "open" "Z", Cond.methodLink RX1 166 yX2_catchOf, Cond.instanceMethod yX2_catchOf, Cond.selects RX2 yX2_catchOf yX2_catchOf, Cond.code yX2_catchOf cX2_catchOf 3 (some .int), Cond.fieldLink RX2 15 "StakeWeirs$Weir" "stakes" "I", Cond.fieldLink RX2 18 "StakeWeirs$Weir" "wattle" "I", Cond.fieldLink RX2 27 "StakeWeirs$Weir" "eels" "I"]
def wsX1_goThroughNights_r3 : List Cond := [Cond.methodLink RX2 41 Lib.Math.min.name, Cond.static Lib.Math.min.name, Cond.initialized "java/lang/Math", Cond.code Lib.Math.min.name Lib.Math.min.code 2 (some .int), Cond.methodLink RX1 151 yX1_moveBarges, Cond.instanceMethod yX1_moveBarges, Cond.selects RX1 yX1_moveBarges yX1_moveBarges, Cond.code yX1_moveBarges cX1_moveBarges 4 none, Cond.fieldLink RX1 51 "StakeWeirs$Estuary" "bargeCount" "I", Cond.fieldLink RX1 93 "StakeWeirs$Weir" "place" "I", Cond.methodLink RX1 54 yX1_bargeAt, Cond.instanceMethod yX1_bargeAt, Cond.selects RX1 yX1_bargeAt yX1_bargeAt, Cond.code yX1_bargeAt cX1_bargeAt 3 (some (.object "StakeWeirs$Barge")), Cond.fieldLink RX1 27 "StakeWeirs$Estuary" "barges" "[LStakeWeirs$Barge;", Cond.methodLink RX1 127 yX1_nextInWay, Cond.instanceMethod yX1_nextInWay, Cond.selects RX1 yX1_nextInWay yX1_nextInWay, Cond.code yX1_nextInWay cX1_nextInWay 6 (some .int), Cond.fieldLink RX1 123 "StakeWeirs$Barge" "place" "I", Cond.fieldLink RX1 120 "StakeWeirs$Barge" "wide" "I", Cond.methodLink RX1 141 yX2_isInWay, Cond.instanceMethod yX2_isInWay, Cond.selects RX2 yX2_isInWay yX2_isInWay]
def wsX1_goThroughNights_r4 : List Cond := [Cond.code yX2_isInWay cX2_isInWay 2 (some .boolean), Cond.methodLink RX2 37 yX2_isFishing, Cond.methodLink RX1 169 yX0_goOn, Cond.instanceMethod yX0_goOn, Cond.selects RX0 yX0_goOn yX0_goOn, Cond.initialized RX0, Cond.code yX0_goOn cX0_goOn 2 none, Cond.fieldLink RX0 18 "StakeWeirs$Barge" "place" "I", Cond.methodLink RX0 24 Lib.Math.min.name, Cond.methodLink RX1 173 yX1_breakThrough, Cond.instanceMethod yX1_breakThrough, Cond.selects RX1 yX1_breakThrough yX1_breakThrough, Cond.code yX1_breakThrough cX1_breakThrough 4 none, Cond.fieldLink RX1 68 "StakeWeirs$Estuary" "fines" "I", Cond.fieldLink RX1 124 "StakeWeirs$Barge" "broken" "I", Cond.methodLink RX1 176 yX2_breakFor, Cond.instanceMethod yX2_breakFor, Cond.selects RX2 yX2_breakFor yX2_breakFor, Cond.code yX2_breakFor cX2_breakFor 3 (some .int), Cond.fieldLink RX2 24 "StakeWeirs$Weir" "coins" "I", Cond.methodLink RX2 47 yX2_loseWattle, Cond.instanceMethod yX2_loseWattle, Cond.selects RX2 yX2_loseWattle yX2_loseWattle, Cond.code yX2_loseWattle cX2_loseWattle 2 none]
def wsX1_goThroughNights_r5 : List Cond := [Cond.methodLink RX1 154 yX1_leaveOutArrived, Cond.instanceMethod yX1_leaveOutArrived, Cond.selects RX1 yX1_leaveOutArrived yX1_leaveOutArrived, Cond.code yX1_leaveOutArrived cX1_leaveOutArrived 4 none, Cond.fieldLink RX1 65 "StakeWeirs$Estuary" "arrived" "I", Cond.methodLink RX1 58 yX1_copyBarge, Cond.static yX1_copyBarge, Cond.code yX1_copyBarge cX1_copyBarge 2 none, Cond.methodLink RX1 78 yX0_copyFrom, Cond.instanceMethod yX0_copyFrom, Cond.selects RX0 yX0_copyFrom yX0_copyFrom, Cond.code yX0_copyFrom cX0_copyFrom 2 none, Cond.fieldLink RX0 9 "StakeWeirs$Barge" "ticket" "I", Cond.fieldLink RX0 15 "StakeWeirs$Barge" "wide" "I", Cond.fieldLink RX0 21 "StakeWeirs$Barge" "broken" "I", Cond.methodLink RX1 157 yX1_rotWattle, Cond.instanceMethod yX1_rotWattle, Cond.selects RX1 yX1_rotWattle yX1_rotWattle, Cond.code yX1_rotWattle cX1_rotWattle 4 none, Cond.methodLink RX1 131 yX2_isHeld, Cond.instanceMethod yX2_isHeld, Cond.selects RX2 yX2_isHeld yX2_isHeld, Cond.code yX2_isHeld cX2_isHeld 1 (some .boolean), Cond.methodLink RX1 179 yX2_loseWattle]
def wsX1_goThroughNights_r6 : List Cond := [Cond.methodLink RX1 160 yX1_collectRents, Cond.instanceMethod yX1_collectRents, Cond.selects RX1 yX1_collectRents yX1_collectRents, Cond.code yX1_collectRents cX1_collectRents 3 none, Cond.fieldLink RX1 71 "StakeWeirs$Estuary" "rents" "I", Cond.methodLink RX1 182 yX2_payRent, Cond.instanceMethod yX2_payRent, Cond.selects RX2 yX2_payRent yX2_payRent, Cond.code yX2_payRent cX2_payRent 1 (some .int), Cond.fieldLink RX2 21 "StakeWeirs$Weir" "rent" "I"]
def wsX1_goThroughNights : List Cond := .code yX1_goThroughNights cX1_goThroughNights 3 none :: ((wsX1_goThroughNights_r1 ++ (wsX1_goThroughNights_r2 ++ (wsX1_goThroughNights_r3 ++ (wsX1_goThroughNights_r4 ++ (wsX1_goThroughNights_r5 ++ wsX1_goThroughNights_r6))))) ++ wsX10 ++ wsX20 ++ wsX00)
def wsX2_fact : List Cond := .code yX2_fact cX2_fact 2 (some .int) :: ([.fieldLink RX2 9 "StakeWeirs$Weir" "place" "I", .fieldLink RX2 15 "StakeWeirs$Weir" "stakes" "I", .fieldLink RX2 18 "StakeWeirs$Weir" "wattle" "I", .fieldLink RX2 21 "StakeWeirs$Weir" "rent" "I", .fieldLink RX2 24 "StakeWeirs$Weir" "coins" "I", .fieldLink RX2 27 "StakeWeirs$Weir" "eels" "I", .fieldLink RX2 30 "StakeWeirs$Weir" "open" "Z", .fieldLink RX2 34 "StakeWeirs$Weir" "owed" "I"] ++ wsX20)
def wsX3_init_r1 : List Cond := [Cond.methodLink RX3 3 objectInit, Cond.instanceMethod objectInit, Cond.code objectInit ⟨#[0xb1]⟩ 1 none, Cond.classLink RX3 9 RX1, Cond.instantiable RX1 10, Cond.initialized RX1, Cond.fieldLink RX3 12 "StakeWeirs" "now" "LStakeWeirs$Estuary;", Cond.fieldLink RX3 16 "StakeWeirs" "trial" "LStakeWeirs$Estuary;", Cond.methodLink RX3 11 yX1_init, Cond.instanceMethod yX1_init, Cond.code yX1_init cX1_init 2 none, Cond.methodLink RX1 3 objectInit, Cond.arrayClass .int, Cond.fieldLink RX1 9 "StakeWeirs$Estuary" "table" "[I", Cond.fieldLink RX1 15 "StakeWeirs$Estuary" "order" "[I", Cond.classLink RX1 18 RX2, Cond.fieldLink RX1 20 "StakeWeirs$Estuary" "weirs" "[LStakeWeirs$Weir;", Cond.instantiable RX2 8, Cond.initialized RX2, Cond.classLink RX1 25 RX0, Cond.fieldLink RX1 27 "StakeWeirs$Estuary" "barges" "[LStakeWeirs$Barge;", Cond.instantiable RX0 4, Cond.initialized RX0, Cond.instanceMethod yX2_init]
def wsX3_init_r2 : List Cond := [Cond.code yX2_init cX2_init 1 none, Cond.methodLink RX2 3 objectInit, Cond.instanceMethod yX0_init, Cond.code yX0_init cX0_init 1 none, Cond.methodLink RX0 3 objectInit]
def wsX3_init : List Cond := .code yX3_init cX3_init 1 none :: ((wsX3_init_r1 ++ wsX3_init_r2) ++ wsX10 ++ wsX30 ++ wsX20 ++ wsX00)
def wsX3_isWithin : List Cond := .code yX3_isWithin cX3_isWithin 3 (some .boolean) :: ([])
def wsX3_weir_r1 : List Cond := [Cond.classLink RX3 23 "java/lang/IllegalArgumentException", Cond.initialized "java/lang/IllegalArgumentException", Cond.classLink RX3 34 "java/lang/IllegalStateException", Cond.initialized "java/lang/IllegalStateException", Cond.fieldLink RX3 12 "StakeWeirs" "now" "LStakeWeirs$Estuary;", Cond.fieldLink RX3 30 "StakeWeirs$Estuary" "weirCount" "I", Cond.methodLink RX3 19 yX3_isWithin, Cond.static yX3_isWithin, Cond.initialized RX3, Cond.code yX3_isWithin cX3_isWithin 3 (some .boolean), Cond.methodLink RX3 39 yX1_addWeir, Cond.instanceMethod yX1_addWeir, Cond.selects RX1 yX1_addWeir yX1_addWeir, Cond.initialized RX1, Cond.code yX1_addWeir cX1_addWeir 6 (some .int), Cond.fieldLink RX1 39 "StakeWeirs$Estuary" "weirCount" "I", Cond.methodLink RX1 81 yX1_putInOrder, Cond.instanceMethod yX1_putInOrder, Cond.selects RX1 yX1_putInOrder yX1_putInOrder, Cond.code yX1_putInOrder cX1_putInOrder 4 none, Cond.fieldLink RX1 15 "StakeWeirs$Estuary" "order" "[I", Cond.methodLink RX1 89 yX1_isSeawardsOf, Cond.instanceMethod yX1_isSeawardsOf, Cond.selects RX1 yX1_isSeawardsOf yX1_isSeawardsOf]
def wsX3_weir_r2 : List Cond := [Cond.code yX1_isSeawardsOf cX1_isSeawardsOf 4 (some .boolean), Cond.fieldLink RX1 93 "StakeWeirs$Weir" "place" "I", Cond.methodLink RX1 43 yX1_weirAt, Cond.instanceMethod yX1_weirAt, Cond.selects RX1 yX1_weirAt yX1_weirAt, Cond.code yX1_weirAt cX1_weirAt 3 (some (.object "StakeWeirs$Weir")), Cond.fieldLink RX1 20 "StakeWeirs$Estuary" "weirs" "[LStakeWeirs$Weir;", Cond.methodLink RX1 85 yX2_makeNew, Cond.instanceMethod yX2_makeNew, Cond.selects RX2 yX2_makeNew yX2_makeNew, Cond.initialized RX2, Cond.code yX2_makeNew cX2_makeNew 4 none, Cond.fieldLink RX2 9 "StakeWeirs$Weir" "place" "I", Cond.fieldLink RX2 15 "StakeWeirs$Weir" "stakes" "I", Cond.fieldLink RX2 18 "StakeWeirs$Weir" "wattle" "I", Cond.fieldLink RX2 21 "StakeWeirs$Weir" "rent" "I", Cond.fieldLink RX2 24 "StakeWeirs$Weir" "coins" "I", Cond.fieldLink RX2 27 "StakeWeirs$Weir" "eels" "I", Cond.fieldLink RX2 30 "StakeWeirs$Weir" "open" "Z", Cond.fieldLink RX2 34 "StakeWeirs$Weir" "owed" "I"]
def wsX3_weir : List Cond := .code yX3_weir cX3_weir 4 (some .int) :: ((wsX3_weir_r1 ++ wsX3_weir_r2) ++ wsX30 ++ wsX10 ++ wsX20 ++ (vx_atS RX3 27 "java/lang/IllegalArgumentException" ["java/lang/RuntimeException", "java/lang/Exception"]).filter goodWord ++ (vx_atS RX3 38 "java/lang/IllegalStateException" ["java/lang/RuntimeException", "java/lang/Exception"]).filter goodWord)
def wsX3_gate : List Cond := .code yX3_gate cX3_gate 3 (some .boolean) :: ([.classLink RX3 47 "java/lang/IndexOutOfBoundsException", .initialized "java/lang/IndexOutOfBoundsException", .classLink RX3 34 "java/lang/IllegalStateException", .initialized "java/lang/IllegalStateException", .fieldLink RX3 12 "StakeWeirs" "now" "LStakeWeirs$Estuary;", .fieldLink RX3 60 "StakeWeirs$Weir" "open" "Z", .methodLink RX3 43 yX1_weirAt, .instanceMethod yX1_weirAt, .selects RX1 yX1_weirAt yX1_weirAt, .initialized RX1, .code yX1_weirAt cX1_weirAt 3 (some (.object "StakeWeirs$Weir")), .fieldLink RX1 39 "StakeWeirs$Estuary" "weirCount" "I", .fieldLink RX1 20 "StakeWeirs$Estuary" "weirs" "[LStakeWeirs$Weir;", .methodLink RX3 52 yX2_isHeld, .instanceMethod yX2_isHeld, .selects RX2 yX2_isHeld yX2_isHeld, .initialized RX2, .code yX2_isHeld cX2_isHeld 1 (some .boolean), .fieldLink RX2 34 "StakeWeirs$Weir" "owed" "I"] ++ wsX30 ++ wsX20 ++ wsX10 ++ (vx_atS RX3 51 "java/lang/IndexOutOfBoundsException" ["java/lang/RuntimeException", "java/lang/Exception"]).filter goodWord ++ (vx_atS RX3 38 "java/lang/IllegalStateException" ["java/lang/RuntimeException", "java/lang/Exception"]).filter goodWord)
def wsX3_mend_r1 : List Cond := [Cond.classLink RX3 47 "java/lang/IndexOutOfBoundsException", Cond.initialized "java/lang/IndexOutOfBoundsException", Cond.classLink RX3 23 "java/lang/IllegalArgumentException", Cond.initialized "java/lang/IllegalArgumentException", Cond.classLink RX3 34 "java/lang/IllegalStateException", Cond.initialized "java/lang/IllegalStateException", Cond.fieldLink RX3 12 "StakeWeirs" "now" "LStakeWeirs$Estuary;", Cond.fieldLink RX3 66 "StakeWeirs$Weir" "wattle" "I", Cond.fieldLink RX3 69 "StakeWeirs$Weir" "coins" "I", Cond.methodLink RX3 43 yX1_weirAt, Cond.instanceMethod yX1_weirAt, Cond.selects RX1 yX1_weirAt yX1_weirAt, Cond.initialized RX1, Cond.code yX1_weirAt cX1_weirAt 3 (some (.object "StakeWeirs$Weir")), Cond.fieldLink RX1 39 "StakeWeirs$Estuary" "weirCount" "I", Cond.fieldLink RX1 20 "StakeWeirs$Estuary" "weirs" "[LStakeWeirs$Weir;", Cond.methodLink RX3 19 yX3_isWithin, Cond.static yX3_isWithin, Cond.initialized RX3, Cond.code yX3_isWithin cX3_isWithin 3 (some .boolean), Cond.methodLink RX3 52 yX2_isHeld, Cond.instanceMethod yX2_isHeld, Cond.selects RX2 yX2_isHeld yX2_isHeld, Cond.initialized RX2]
def wsX3_mend_r2 : List Cond := [Cond.code yX2_isHeld cX2_isHeld 1 (some .boolean), Cond.fieldLink RX2 34 "StakeWeirs$Weir" "owed" "I"]
def wsX3_mend : List Cond := .code yX3_mend cX3_mend 5 (some .int) :: ((wsX3_mend_r1 ++ wsX3_mend_r2) ++ wsX30 ++ wsX20 ++ wsX10 ++ (vx_atS RX3 51 "java/lang/IndexOutOfBoundsException" ["java/lang/RuntimeException", "java/lang/Exception"]).filter goodWord ++ (vx_atS RX3 27 "java/lang/IllegalArgumentException" ["java/lang/RuntimeException", "java/lang/Exception"]).filter goodWord ++ (vx_atS RX3 38 "java/lang/IllegalStateException" ["java/lang/RuntimeException", "java/lang/Exception"]).filter goodWord)
def wsX3_drive_r1 : List Cond := [Cond.classLink RX3 47 "java/lang/IndexOutOfBoundsException", Cond.initialized "java/lang/IndexOutOfBoundsException", Cond.classLink RX3 23 "java/lang/IllegalArgumentException", Cond.initialized "java/lang/IllegalArgumentException", Cond.classLink RX3 34 "java/lang/IllegalStateException", Cond.initialized "java/lang/IllegalStateException", Cond.fieldLink RX3 12 "StakeWeirs" "now" "LStakeWeirs$Estuary;", Cond.fieldLink RX3 76 "StakeWeirs$Weir" "stakes" "I", Cond.fieldLink RX3 69 "StakeWeirs$Weir" "coins" "I", Cond.methodLink RX3 43 yX1_weirAt, Cond.instanceMethod yX1_weirAt, Cond.selects RX1 yX1_weirAt yX1_weirAt, Cond.initialized RX1, Cond.code yX1_weirAt cX1_weirAt 3 (some (.object "StakeWeirs$Weir")), Cond.fieldLink RX1 39 "StakeWeirs$Estuary" "weirCount" "I", Cond.fieldLink RX1 20 "StakeWeirs$Estuary" "weirs" "[LStakeWeirs$Weir;", Cond.methodLink RX3 19 yX3_isWithin, Cond.static yX3_isWithin, Cond.initialized RX3, Cond.code yX3_isWithin cX3_isWithin 3 (some .boolean), Cond.methodLink RX3 52 yX2_isHeld, Cond.instanceMethod yX2_isHeld, Cond.selects RX2 yX2_isHeld yX2_isHeld, Cond.initialized RX2]
def wsX3_drive_r2 : List Cond := [Cond.code yX2_isHeld cX2_isHeld 1 (some .boolean), Cond.fieldLink RX2 34 "StakeWeirs$Weir" "owed" "I"]
def wsX3_drive : List Cond := .code yX3_drive cX3_drive 5 (some .int) :: ((wsX3_drive_r1 ++ wsX3_drive_r2) ++ wsX30 ++ wsX20 ++ wsX10 ++ (vx_atS RX3 51 "java/lang/IndexOutOfBoundsException" ["java/lang/RuntimeException", "java/lang/Exception"]).filter goodWord ++ (vx_atS RX3 27 "java/lang/IllegalArgumentException" ["java/lang/RuntimeException", "java/lang/Exception"]).filter goodWord ++ (vx_atS RX3 38 "java/lang/IllegalStateException" ["java/lang/RuntimeException", "java/lang/Exception"]).filter goodWord)
def wsX3_priceOfEels : List Cond := .code yX3_priceOfEels cX3_priceOfEels 2 (some .int) :: ([])
def wsX3_sell_r1 : List Cond := [Cond.classLink RX3 47 "java/lang/IndexOutOfBoundsException", Cond.initialized "java/lang/IndexOutOfBoundsException", Cond.classLink RX3 34 "java/lang/IllegalStateException", Cond.initialized "java/lang/IllegalStateException", Cond.fieldLink RX3 12 "StakeWeirs" "now" "LStakeWeirs$Estuary;", Cond.fieldLink RX3 81 "StakeWeirs$Weir" "eels" "I", Cond.fieldLink RX3 69 "StakeWeirs$Weir" "coins" "I", Cond.methodLink RX3 43 yX1_weirAt, Cond.instanceMethod yX1_weirAt, Cond.selects RX1 yX1_weirAt yX1_weirAt, Cond.initialized RX1, Cond.code yX1_weirAt cX1_weirAt 3 (some (.object "StakeWeirs$Weir")), Cond.fieldLink RX1 39 "StakeWeirs$Estuary" "weirCount" "I", Cond.fieldLink RX1 20 "StakeWeirs$Estuary" "weirs" "[LStakeWeirs$Weir;", Cond.methodLink RX3 52 yX2_isHeld, Cond.instanceMethod yX2_isHeld, Cond.selects RX2 yX2_isHeld yX2_isHeld, Cond.initialized RX2, Cond.code yX2_isHeld cX2_isHeld 1 (some .boolean), Cond.fieldLink RX2 34 "StakeWeirs$Weir" "owed" "I", Cond.methodLink RX3 86 yX1_moon, Cond.instanceMethod yX1_moon, Cond.selects RX1 yX1_moon yX1_moon, Cond.code yX1_moon cX1_moon 2 (some .int)]
def wsX3_sell_r2 : List Cond := [Cond.fieldLink RX1 62 "StakeWeirs$Estuary" "night" "I", Cond.methodLink RX1 101 yJ9_floorMod_7cf53, Cond.static yJ9_floorMod_7cf53, Cond.initialized RJ9, Cond.code yJ9_floorMod_7cf53 cJ9_floorMod_7cf53 3 (some .int), Cond.methodLink RX3 90 yX3_priceOfEels, Cond.static yX3_priceOfEels, Cond.initialized RX3, Cond.code yX3_priceOfEels cX3_priceOfEels 2 (some .int)]
def wsX3_sell : List Cond := .code yX3_sell cX3_sell 4 (some .int) :: ((wsX3_sell_r1 ++ wsX3_sell_r2) ++ wsX30 ++ wsX20 ++ wsX10 ++ (vx_atS RX3 51 "java/lang/IndexOutOfBoundsException" ["java/lang/RuntimeException", "java/lang/Exception"]).filter goodWord ++ (vx_atS RX3 38 "java/lang/IllegalStateException" ["java/lang/RuntimeException", "java/lang/Exception"]).filter goodWord)
def wsX3_setRun : List Cond := .code yX3_setRun cX3_setRun 4 (some .int) :: ([.classLink RX3 47 "java/lang/IndexOutOfBoundsException", .initialized "java/lang/IndexOutOfBoundsException", .classLink RX3 23 "java/lang/IllegalArgumentException", .initialized "java/lang/IllegalArgumentException", .fieldLink RX3 12 "StakeWeirs" "now" "LStakeWeirs$Estuary;", .methodLink RX3 19 yX3_isWithin, .static yX3_isWithin, .initialized RX3, .code yX3_isWithin cX3_isWithin 3 (some .boolean), .methodLink RX3 98 yX1_tableEels, .instanceMethod yX1_tableEels, .selects RX1 yX1_tableEels yX1_tableEels, .initialized RX1, .code yX1_tableEels cX1_tableEels 2 (some .int), .fieldLink RX1 9 "StakeWeirs$Estuary" "table" "[I", .methodLink RX3 102 yX1_setTableEels, .instanceMethod yX1_setTableEels, .selects RX1 yX1_setTableEels yX1_setTableEels, .code yX1_setTableEels cX1_setTableEels 3 none] ++ wsX30 ++ wsX10 ++ (vx_atS RX3 51 "java/lang/IndexOutOfBoundsException" ["java/lang/RuntimeException", "java/lang/Exception"]).filter goodWord ++ (vx_atS RX3 27 "java/lang/IllegalArgumentException" ["java/lang/RuntimeException", "java/lang/Exception"]).filter goodWord)
def wsX3_barge_r1 : List Cond := [Cond.classLink RX3 23 "java/lang/IllegalArgumentException", Cond.initialized "java/lang/IllegalArgumentException", Cond.classLink RX3 34 "java/lang/IllegalStateException", Cond.initialized "java/lang/IllegalStateException", Cond.fieldLink RX3 12 "StakeWeirs" "now" "LStakeWeirs$Estuary;", Cond.fieldLink RX3 108 "StakeWeirs$Estuary" "bargeCount" "I", Cond.methodLink RX3 19 yX3_isWithin, Cond.static yX3_isWithin, Cond.initialized RX3, Cond.code yX3_isWithin cX3_isWithin 3 (some .boolean), Cond.methodLink RX3 113 yX1_addBarge, Cond.instanceMethod yX1_addBarge, Cond.selects RX1 yX1_addBarge yX1_addBarge, Cond.initialized RX1, Cond.code yX1_addBarge cX1_addBarge 4 (some .int), Cond.fieldLink RX1 51 "StakeWeirs$Estuary" "bargeCount" "I", Cond.fieldLink RX1 65 "StakeWeirs$Estuary" "arrived" "I", Cond.methodLink RX1 54 yX1_bargeAt, Cond.instanceMethod yX1_bargeAt, Cond.selects RX1 yX1_bargeAt yX1_bargeAt, Cond.code yX1_bargeAt cX1_bargeAt 3 (some (.object "StakeWeirs$Barge")), Cond.fieldLink RX1 27 "StakeWeirs$Estuary" "barges" "[LStakeWeirs$Barge;", Cond.methodLink RX1 96 yX0_makeNew, Cond.instanceMethod yX0_makeNew]
def wsX3_barge_r2 : List Cond := [Cond.selects RX0 yX0_makeNew yX0_makeNew, Cond.initialized RX0, Cond.code yX0_makeNew cX0_makeNew 3 none, Cond.fieldLink RX0 9 "StakeWeirs$Barge" "ticket" "I", Cond.fieldLink RX0 15 "StakeWeirs$Barge" "wide" "I", Cond.fieldLink RX0 18 "StakeWeirs$Barge" "place" "I", Cond.fieldLink RX0 21 "StakeWeirs$Barge" "broken" "I"]
def wsX3_barge : List Cond := .code yX3_barge cX3_barge 2 (some .int) :: ((wsX3_barge_r1 ++ wsX3_barge_r2) ++ wsX30 ++ wsX10 ++ wsX00 ++ (vx_atS RX3 27 "java/lang/IllegalArgumentException" ["java/lang/RuntimeException", "java/lang/Exception"]).filter goodWord ++ (vx_atS RX3 38 "java/lang/IllegalStateException" ["java/lang/RuntimeException", "java/lang/Exception"]).filter goodWord)
def wsX3_about_r1 : List Cond := [Cond.classLink RX3 47 "java/lang/IndexOutOfBoundsException", Cond.initialized "java/lang/IndexOutOfBoundsException", Cond.fieldLink RX3 12 "StakeWeirs" "now" "LStakeWeirs$Estuary;", Cond.methodLink RX3 43 yX1_weirAt, Cond.instanceMethod yX1_weirAt, Cond.selects RX1 yX1_weirAt yX1_weirAt, Cond.initialized RX1, Cond.code yX1_weirAt cX1_weirAt 3 (some (.object "StakeWeirs$Weir")), Cond.fieldLink RX1 39 "StakeWeirs$Estuary" "weirCount" "I", Cond.fieldLink RX1 20 "StakeWeirs$Estuary" "weirs" "[LStakeWeirs$Weir;", Cond.methodLink RX3 19 yX3_isWithin, Cond.static yX3_isWithin, Cond.initialized RX3, Cond.code yX3_isWithin cX3_isWithin 3 (some .boolean), Cond.methodLink RX3 118 yX2_fact, Cond.instanceMethod yX2_fact, Cond.selects RX2 yX2_fact yX2_fact, Cond.initialized RX2, Cond.code yX2_fact cX2_fact 2 (some .int), Cond.fieldLink RX2 9 "StakeWeirs$Weir" "place" "I", Cond.fieldLink RX2 15 "StakeWeirs$Weir" "stakes" "I", Cond.fieldLink RX2 18 "StakeWeirs$Weir" "wattle" "I", Cond.fieldLink RX2 21 "StakeWeirs$Weir" "rent" "I", Cond.fieldLink RX2 24 "StakeWeirs$Weir" "coins" "I"]
def wsX3_about_r2 : List Cond := [Cond.fieldLink RX2 27 "StakeWeirs$Weir" "eels" "I", Cond.fieldLink RX2 30 "StakeWeirs$Weir" "open" "Z", Cond.fieldLink RX2 34 "StakeWeirs$Weir" "owed" "I"]
def wsX3_about : List Cond := .code yX3_about cX3_about 4 (some .int) :: ((wsX3_about_r1 ++ wsX3_about_r2) ++ wsX30 ++ wsX10 ++ wsX20 ++ (vx_atS RX3 51 "java/lang/IndexOutOfBoundsException" ["java/lang/RuntimeException", "java/lang/Exception"]).filter goodWord)
def wsX3_told_r1 : List Cond := [Cond.classLink RX3 47 "java/lang/IndexOutOfBoundsException", Cond.initialized "java/lang/IndexOutOfBoundsException", Cond.fieldLink RX3 12 "StakeWeirs" "now" "LStakeWeirs$Estuary;", Cond.methodLink RX3 121 yX1_bargeAt, Cond.instanceMethod yX1_bargeAt, Cond.selects RX1 yX1_bargeAt yX1_bargeAt, Cond.initialized RX1, Cond.code yX1_bargeAt cX1_bargeAt 3 (some (.object "StakeWeirs$Barge")), Cond.fieldLink RX1 51 "StakeWeirs$Estuary" "bargeCount" "I", Cond.fieldLink RX1 27 "StakeWeirs$Estuary" "barges" "[LStakeWeirs$Barge;", Cond.methodLink RX3 19 yX3_isWithin, Cond.static yX3_isWithin, Cond.initialized RX3, Cond.code yX3_isWithin cX3_isWithin 3 (some .boolean), Cond.methodLink RX3 127 yX1_bargeFact, Cond.instanceMethod yX1_bargeFact, Cond.selects RX1 yX1_bargeFact yX1_bargeFact, Cond.code yX1_bargeFact cX1_bargeFact 3 (some .int), Cond.fieldLink RX1 120 "StakeWeirs$Barge" "wide" "I", Cond.fieldLink RX1 123 "StakeWeirs$Barge" "place" "I", Cond.fieldLink RX1 124 "StakeWeirs$Barge" "broken" "I", Cond.methodLink RX1 127 yX1_nextInWay, Cond.instanceMethod yX1_nextInWay, Cond.selects RX1 yX1_nextInWay yX1_nextInWay]
def wsX3_told_r2 : List Cond := [Cond.code yX1_nextInWay cX1_nextInWay 6 (some .int), Cond.fieldLink RX1 39 "StakeWeirs$Estuary" "weirCount" "I", Cond.fieldLink RX1 93 "StakeWeirs$Weir" "place" "I", Cond.methodLink RX1 43 yX1_weirAt, Cond.instanceMethod yX1_weirAt, Cond.selects RX1 yX1_weirAt yX1_weirAt, Cond.code yX1_weirAt cX1_weirAt 3 (some (.object "StakeWeirs$Weir")), Cond.fieldLink RX1 20 "StakeWeirs$Estuary" "weirs" "[LStakeWeirs$Weir;", Cond.methodLink RX1 141 yX2_isInWay, Cond.instanceMethod yX2_isInWay, Cond.selects RX2 yX2_isInWay yX2_isInWay, Cond.initialized RX2, Cond.code yX2_isInWay cX2_isInWay 2 (some .boolean), Cond.fieldLink RX2 15 "StakeWeirs$Weir" "stakes" "I", Cond.methodLink RX2 37 yX2_isFishing, Cond.instanceMethod yX2_isFishing, Cond.selects RX2 yX2_isFishing yX2_isFishing, Cond.code yX2_isFishing cX2_isFishing 1 (some .boolean), Cond.fieldLink RX2 34 "StakeWeirs$Weir" "owed" "I", Cond.fieldLink RX2 30 "StakeWeirs$Weir" "open" "Z"]
def wsX3_told : List Cond := .code yX3_told cX3_told 4 (some .int) :: ((wsX3_told_r1 ++ wsX3_told_r2) ++ wsX30 ++ wsX10 ++ wsX00 ++ wsX20 ++ (vx_atS RX3 51 "java/lang/IndexOutOfBoundsException" ["java/lang/RuntimeException", "java/lang/Exception"]).filter goodWord)
def wsX3_count_r1 : List Cond := [Cond.classLink RX3 47 "java/lang/IndexOutOfBoundsException", Cond.initialized "java/lang/IndexOutOfBoundsException", Cond.fieldLink RX3 12 "StakeWeirs" "now" "LStakeWeirs$Estuary;", Cond.methodLink RX3 19 yX3_isWithin, Cond.static yX3_isWithin, Cond.initialized RX3, Cond.code yX3_isWithin cX3_isWithin 3 (some .boolean), Cond.methodLink RX3 133 yX1_fact, Cond.instanceMethod yX1_fact, Cond.selects RX1 yX1_fact yX1_fact, Cond.initialized RX1, Cond.code yX1_fact cX1_fact 2 (some .int), Cond.fieldLink RX1 62 "StakeWeirs$Estuary" "night" "I", Cond.fieldLink RX1 39 "StakeWeirs$Estuary" "weirCount" "I", Cond.fieldLink RX1 51 "StakeWeirs$Estuary" "bargeCount" "I", Cond.fieldLink RX1 65 "StakeWeirs$Estuary" "arrived" "I", Cond.fieldLink RX1 68 "StakeWeirs$Estuary" "fines" "I", Cond.fieldLink RX1 71 "StakeWeirs$Estuary" "rents" "I", Cond.methodLink RX1 107 yX1_moon, Cond.instanceMethod yX1_moon, Cond.selects RX1 yX1_moon yX1_moon, Cond.code yX1_moon cX1_moon 2 (some .int), Cond.methodLink RX1 101 yJ9_floorMod_7cf53, Cond.static yJ9_floorMod_7cf53]
def wsX3_count_r2 : List Cond := [Cond.initialized RJ9, Cond.code yJ9_floorMod_7cf53 cJ9_floorMod_7cf53 3 (some .int), Cond.methodLink RX1 111 yX1_run, Cond.instanceMethod yX1_run, Cond.selects RX1 yX1_run yX1_run, Cond.code yX1_run cX1_run 3 (some .int), Cond.methodLink RX1 32 yX1_tableEels, Cond.instanceMethod yX1_tableEels, Cond.selects RX1 yX1_tableEels yX1_tableEels, Cond.code yX1_tableEels cX1_tableEels 2 (some .int), Cond.fieldLink RX1 9 "StakeWeirs$Estuary" "table" "[I", Cond.methodLink RX1 114 yX1_heldWeirs, Cond.instanceMethod yX1_heldWeirs, Cond.selects RX1 yX1_heldWeirs yX1_heldWeirs, Cond.code yX1_heldWeirs cX1_heldWeirs 4 (some .int), Cond.methodLink RX1 43 yX1_weirAt, Cond.instanceMethod yX1_weirAt, Cond.selects RX1 yX1_weirAt yX1_weirAt, Cond.code yX1_weirAt cX1_weirAt 3 (some (.object "StakeWeirs$Weir")), Cond.fieldLink RX1 20 "StakeWeirs$Estuary" "weirs" "[LStakeWeirs$Weir;", Cond.methodLink RX1 131 yX2_isHeld, Cond.instanceMethod yX2_isHeld, Cond.selects RX2 yX2_isHeld yX2_isHeld, Cond.initialized RX2]
def wsX3_count_r3 : List Cond := [Cond.code yX2_isHeld cX2_isHeld 1 (some .boolean), Cond.fieldLink RX2 34 "StakeWeirs$Weir" "owed" "I", Cond.methodLink RX1 117 yX1_allEels, Cond.instanceMethod yX1_allEels, Cond.selects RX1 yX1_allEels yX1_allEels, Cond.code yX1_allEels cX1_allEels 4 (some .int), Cond.fieldLink RX1 138 "StakeWeirs$Weir" "eels" "I"]
def wsX3_count : List Cond := .code yX3_count cX3_count 2 (some .int) :: ((wsX3_count_r1 ++ (wsX3_count_r2 ++ wsX3_count_r3)) ++ wsX30 ++ wsX10 ++ wsX20 ++ (vx_atS RX3 51 "java/lang/IndexOutOfBoundsException" ["java/lang/RuntimeException", "java/lang/Exception"]).filter goodWord)
def wsX3_hinders_r1 : List Cond := [Cond.classLink RX3 23 "java/lang/IllegalArgumentException", Cond.initialized "java/lang/IllegalArgumentException", Cond.fieldLink RX3 12 "StakeWeirs" "now" "LStakeWeirs$Estuary;", Cond.methodLink RX3 19 yX3_isWithin, Cond.static yX3_isWithin, Cond.initialized RX3, Cond.code yX3_isWithin cX3_isWithin 3 (some .boolean), Cond.methodLink RX3 134 yX1_weirsInWay, Cond.instanceMethod yX1_weirsInWay, Cond.selects RX1 yX1_weirsInWay yX1_weirsInWay, Cond.initialized RX1, Cond.code yX1_weirsInWay cX1_weirsInWay 5 (some .int), Cond.fieldLink RX1 39 "StakeWeirs$Estuary" "weirCount" "I", Cond.methodLink RX1 43 yX1_weirAt, Cond.instanceMethod yX1_weirAt, Cond.selects RX1 yX1_weirAt yX1_weirAt, Cond.code yX1_weirAt cX1_weirAt 3 (some (.object "StakeWeirs$Weir")), Cond.fieldLink RX1 20 "StakeWeirs$Estuary" "weirs" "[LStakeWeirs$Weir;", Cond.methodLink RX1 141 yX2_isInWay, Cond.instanceMethod yX2_isInWay, Cond.selects RX2 yX2_isInWay yX2_isInWay, Cond.initialized RX2, Cond.code yX2_isInWay cX2_isInWay 2 (some .boolean), Cond.fieldLink RX2 15 "StakeWeirs$Weir" "stakes" "I"]
def wsX3_hinders_r2 : List Cond := [Cond.methodLink RX2 37 yX2_isFishing, Cond.instanceMethod yX2_isFishing, Cond.selects RX2 yX2_isFishing yX2_isFishing, Cond.code yX2_isFishing cX2_isFishing 1 (some .boolean), Cond.fieldLink RX2 34 "StakeWeirs$Weir" "owed" "I", Cond.fieldLink RX2 30 "StakeWeirs$Weir" "open" "Z"]
def wsX3_hinders : List Cond := .code yX3_hinders cX3_hinders 2 (some .int) :: ((wsX3_hinders_r1 ++ wsX3_hinders_r2) ++ wsX30 ++ wsX10 ++ wsX20 ++ (vx_atS RX3 27 "java/lang/IllegalArgumentException" ["java/lang/RuntimeException", "java/lang/Exception"]).filter goodWord)
def wsX3_richest : List Cond := .code yX3_richest cX3_richest 1 (some .int) :: ([.fieldLink RX3 12 "StakeWeirs" "now" "LStakeWeirs$Estuary;", .methodLink RX3 137 yX1_richestHeld, .instanceMethod yX1_richestHeld, .selects RX1 yX1_richestHeld yX1_richestHeld, .initialized RX1, .code yX1_richestHeld cX1_richestHeld 5 (some .int), .fieldLink RX1 39 "StakeWeirs$Estuary" "weirCount" "I", .fieldLink RX1 145 "StakeWeirs$Weir" "coins" "I", .methodLink RX1 43 yX1_weirAt, .instanceMethod yX1_weirAt, .selects RX1 yX1_weirAt yX1_weirAt, .code yX1_weirAt cX1_weirAt 3 (some (.object "StakeWeirs$Weir")), .fieldLink RX1 20 "StakeWeirs$Estuary" "weirs" "[LStakeWeirs$Weir;", .methodLink RX1 131 yX2_isHeld, .instanceMethod yX2_isHeld, .selects RX2 yX2_isHeld yX2_isHeld, .initialized RX2, .code yX2_isHeld cX2_isHeld 1 (some .boolean), .fieldLink RX2 34 "StakeWeirs$Weir" "owed" "I"] ++ wsX30 ++ wsX10 ++ wsX20)
def wsX3_pass_r1 : List Cond := [Cond.classLink RX3 23 "java/lang/IllegalArgumentException", Cond.initialized "java/lang/IllegalArgumentException", Cond.fieldLink RX3 12 "StakeWeirs" "now" "LStakeWeirs$Estuary;", Cond.fieldLink RX3 142 "StakeWeirs$Estuary" "arrived" "I", Cond.methodLink RX3 19 yX3_isWithin, Cond.static yX3_isWithin, Cond.initialized RX3, Cond.code yX3_isWithin cX3_isWithin 3 (some .boolean), Cond.methodLink RX3 145 yX1_goThroughNights, Cond.instanceMethod yX1_goThroughNights, Cond.selects RX1 yX1_goThroughNights yX1_goThroughNights, Cond.initialized RX1, Cond.code yX1_goThroughNights cX1_goThroughNights 3 none, Cond.fieldLink RX1 62 "StakeWeirs$Estuary" "night" "I", Cond.methodLink RX1 148 yX1_catchEels, Cond.instanceMethod yX1_catchEels, Cond.selects RX1 yX1_catchEels yX1_catchEels, Cond.code yX1_catchEels cX1_catchEels 4 none, Cond.fieldLink RX1 39 "StakeWeirs$Estuary" "weirCount" "I", Cond.methodLink RX1 111 yX1_run, Cond.instanceMethod yX1_run, Cond.selects RX1 yX1_run yX1_run, Cond.code yX1_run cX1_run 3 (some .int), Cond.methodLink RX1 101 yJ9_floorMod_7cf53]
def wsX3_pass_r2 : List Cond := [Cond.static yJ9_floorMod_7cf53, Cond.initialized RJ9, Cond.code yJ9_floorMod_7cf53 cJ9_floorMod_7cf53 3 (some .int), Cond.methodLink RX1 32 yX1_tableEels, Cond.instanceMethod yX1_tableEels, Cond.selects RX1 yX1_tableEels yX1_tableEels, Cond.code yX1_tableEels cX1_tableEels 2 (some .int), Cond.fieldLink RX1 9 "StakeWeirs$Estuary" "table" "[I", Cond.methodLink RX1 107 yX1_moon, Cond.instanceMethod yX1_moon, Cond.selects RX1 yX1_moon yX1_moon, Cond.code yX1_moon cX1_moon 2 (some .int), Cond.methodLink RX1 36 yX1_inOrder, Cond.instanceMethod yX1_inOrder, Cond.selects RX1 yX1_inOrder yX1_inOrder, Cond.code yX1_inOrder cX1_inOrder 2 (some .int), Cond.fieldLink RX1 15 "StakeWeirs$Estuary" "order" "[I", Cond.methodLink RX1 43 yX1_weirAt, Cond.instanceMethod yX1_weirAt, Cond.selects RX1 yX1_weirAt yX1_weirAt, Cond.code yX1_weirAt cX1_weirAt 3 (some (.object "StakeWeirs$Weir")), Cond.fieldLink RX1 20 "StakeWeirs$Estuary" "weirs" "[LStakeWeirs$Weir;", Cond.methodLink RX1 163 yX2_isFishing, Cond.instanceMethod yX2_isFishing]
def wsX3_pass_r3 : List Cond := [Cond.selects RX2 yX2_isFishing yX2_isFishing, Cond.initialized RX2, Cond.code yX2_isFishing cX2_isFishing 1 (some .boolean), Cond.fieldLink RX2 34 "StakeWeirs$Weir" "owed" "I", Cond.fieldLink RX2 30 "StakeWeirs$Weir" "open" "Z", Cond.methodLink RX1 166 yX2_catchOf, Cond.instanceMethod yX2_catchOf, Cond.selects RX2 yX2_catchOf yX2_catchOf, Cond.code yX2_catchOf cX2_catchOf 3 (some .int), Cond.fieldLink RX2 15 "StakeWeirs$Weir" "stakes" "I", Cond.fieldLink RX2 18 "StakeWeirs$Weir" "wattle" "I", Cond.fieldLink RX2 27 "StakeWeirs$Weir" "eels" "I", Cond.methodLink RX2 41 Lib.Math.min.name, Cond.static Lib.Math.min.name, Cond.initialized "java/lang/Math", Cond.code Lib.Math.min.name Lib.Math.min.code 2 (some .int), Cond.methodLink RX1 151 yX1_moveBarges, Cond.instanceMethod yX1_moveBarges, Cond.selects RX1 yX1_moveBarges yX1_moveBarges, Cond.code yX1_moveBarges cX1_moveBarges 4 none, Cond.fieldLink RX1 51 "StakeWeirs$Estuary" "bargeCount" "I", Cond.fieldLink RX1 93 "StakeWeirs$Weir" "place" "I", Cond.methodLink RX1 54 yX1_bargeAt, Cond.instanceMethod yX1_bargeAt]
def wsX3_pass_r4 : List Cond := [Cond.selects RX1 yX1_bargeAt yX1_bargeAt, Cond.code yX1_bargeAt cX1_bargeAt 3 (some (.object "StakeWeirs$Barge")), Cond.fieldLink RX1 27 "StakeWeirs$Estuary" "barges" "[LStakeWeirs$Barge;", Cond.methodLink RX1 127 yX1_nextInWay, Cond.instanceMethod yX1_nextInWay, Cond.selects RX1 yX1_nextInWay yX1_nextInWay, Cond.code yX1_nextInWay cX1_nextInWay 6 (some .int), Cond.fieldLink RX1 123 "StakeWeirs$Barge" "place" "I", Cond.fieldLink RX1 120 "StakeWeirs$Barge" "wide" "I", Cond.methodLink RX1 141 yX2_isInWay, Cond.instanceMethod yX2_isInWay, Cond.selects RX2 yX2_isInWay yX2_isInWay, Cond.code yX2_isInWay cX2_isInWay 2 (some .boolean), Cond.methodLink RX2 37 yX2_isFishing, Cond.methodLink RX1 169 yX0_goOn, Cond.instanceMethod yX0_goOn, Cond.selects RX0 yX0_goOn yX0_goOn, Cond.initialized RX0, Cond.code yX0_goOn cX0_goOn 2 none, Cond.fieldLink RX0 18 "StakeWeirs$Barge" "place" "I", Cond.methodLink RX0 24 Lib.Math.min.name, Cond.methodLink RX1 173 yX1_breakThrough, Cond.instanceMethod yX1_breakThrough, Cond.selects RX1 yX1_breakThrough yX1_breakThrough]
def wsX3_pass_r5 : List Cond := [Cond.code yX1_breakThrough cX1_breakThrough 4 none, Cond.fieldLink RX1 68 "StakeWeirs$Estuary" "fines" "I", Cond.fieldLink RX1 124 "StakeWeirs$Barge" "broken" "I", Cond.methodLink RX1 176 yX2_breakFor, Cond.instanceMethod yX2_breakFor, Cond.selects RX2 yX2_breakFor yX2_breakFor, Cond.code yX2_breakFor cX2_breakFor 3 (some .int), Cond.fieldLink RX2 24 "StakeWeirs$Weir" "coins" "I", Cond.methodLink RX2 47 yX2_loseWattle, Cond.instanceMethod yX2_loseWattle, Cond.selects RX2 yX2_loseWattle yX2_loseWattle, Cond.code yX2_loseWattle cX2_loseWattle 2 none, Cond.methodLink RX1 154 yX1_leaveOutArrived, Cond.instanceMethod yX1_leaveOutArrived, Cond.selects RX1 yX1_leaveOutArrived yX1_leaveOutArrived, Cond.code yX1_leaveOutArrived cX1_leaveOutArrived 4 none, Cond.fieldLink RX1 65 "StakeWeirs$Estuary" "arrived" "I", Cond.methodLink RX1 58 yX1_copyBarge, Cond.static yX1_copyBarge, Cond.code yX1_copyBarge cX1_copyBarge 2 none, Cond.methodLink RX1 78 yX0_copyFrom, Cond.instanceMethod yX0_copyFrom, Cond.selects RX0 yX0_copyFrom yX0_copyFrom, Cond.code yX0_copyFrom cX0_copyFrom 2 none]
def wsX3_pass_r6 : List Cond := [Cond.fieldLink RX0 9 "StakeWeirs$Barge" "ticket" "I", Cond.fieldLink RX0 15 "StakeWeirs$Barge" "wide" "I", Cond.fieldLink RX0 21 "StakeWeirs$Barge" "broken" "I", Cond.methodLink RX1 157 yX1_rotWattle, Cond.instanceMethod yX1_rotWattle, Cond.selects RX1 yX1_rotWattle yX1_rotWattle, Cond.code yX1_rotWattle cX1_rotWattle 4 none, Cond.methodLink RX1 131 yX2_isHeld, Cond.instanceMethod yX2_isHeld, Cond.selects RX2 yX2_isHeld yX2_isHeld, Cond.code yX2_isHeld cX2_isHeld 1 (some .boolean), Cond.methodLink RX1 179 yX2_loseWattle, Cond.methodLink RX1 160 yX1_collectRents, Cond.instanceMethod yX1_collectRents, Cond.selects RX1 yX1_collectRents yX1_collectRents, Cond.code yX1_collectRents cX1_collectRents 3 none, Cond.fieldLink RX1 71 "StakeWeirs$Estuary" "rents" "I", Cond.methodLink RX1 182 yX2_payRent, Cond.instanceMethod yX2_payRent, Cond.selects RX2 yX2_payRent yX2_payRent, Cond.code yX2_payRent cX2_payRent 1 (some .int), Cond.fieldLink RX2 21 "StakeWeirs$Weir" "rent" "I"]
def wsX3_pass : List Cond := .code yX3_pass cX3_pass 3 (some .int) :: ((wsX3_pass_r1 ++ (wsX3_pass_r2 ++ (wsX3_pass_r3 ++ (wsX3_pass_r4 ++ (wsX3_pass_r5 ++ wsX3_pass_r6))))) ++ wsX30 ++ wsX10 ++ wsX20 ++ wsX00 ++ (vx_atS RX3 27 "java/lang/IllegalArgumentException" ["java/lang/RuntimeException", "java/lang/Exception"]).filter goodWord)
def wsX3_catches_r1 : List Cond := [Cond.classLink RX3 47 "java/lang/IndexOutOfBoundsException", Cond.initialized "java/lang/IndexOutOfBoundsException", Cond.fieldLink RX3 12 "StakeWeirs" "now" "LStakeWeirs$Estuary;", Cond.fieldLink RX3 16 "StakeWeirs" "trial" "LStakeWeirs$Estuary;", Cond.fieldLink RX3 81 "StakeWeirs$Weir" "eels" "I", Cond.methodLink RX3 43 yX1_weirAt, Cond.instanceMethod yX1_weirAt, Cond.selects RX1 yX1_weirAt yX1_weirAt, Cond.initialized RX1, Cond.code yX1_weirAt cX1_weirAt 3 (some (.object "StakeWeirs$Weir")), Cond.fieldLink RX1 39 "StakeWeirs$Estuary" "weirCount" "I", Cond.fieldLink RX1 20 "StakeWeirs$Estuary" "weirs" "[LStakeWeirs$Weir;", Cond.methodLink RX3 149 yX1_copyFrom, Cond.instanceMethod yX1_copyFrom, Cond.selects RX1 yX1_copyFrom yX1_copyFrom, Cond.code yX1_copyFrom cX1_copyFrom 3 none, Cond.fieldLink RX1 9 "StakeWeirs$Estuary" "table" "[I", Cond.fieldLink RX1 15 "StakeWeirs$Estuary" "order" "[I", Cond.fieldLink RX1 51 "StakeWeirs$Estuary" "bargeCount" "I", Cond.fieldLink RX1 62 "StakeWeirs$Estuary" "night" "I", Cond.fieldLink RX1 65 "StakeWeirs$Estuary" "arrived" "I", Cond.fieldLink RX1 68 "StakeWeirs$Estuary" "fines" "I", Cond.fieldLink RX1 71 "StakeWeirs$Estuary" "rents" "I", Cond.methodLink RX1 32 yX1_tableEels]
def wsX3_catches_r2 : List Cond := [Cond.instanceMethod yX1_tableEels, Cond.selects RX1 yX1_tableEels yX1_tableEels, Cond.code yX1_tableEels cX1_tableEels 2 (some .int), Cond.methodLink RX1 36 yX1_inOrder, Cond.instanceMethod yX1_inOrder, Cond.selects RX1 yX1_inOrder yX1_inOrder, Cond.code yX1_inOrder cX1_inOrder 2 (some .int), Cond.methodLink RX1 43 yX1_weirAt, Cond.methodLink RX1 47 yX1_copyWeir, Cond.static yX1_copyWeir, Cond.code yX1_copyWeir cX1_copyWeir 2 none, Cond.methodLink RX1 74 yX2_copyFrom, Cond.instanceMethod yX2_copyFrom, Cond.selects RX2 yX2_copyFrom yX2_copyFrom, Cond.initialized RX2, Cond.code yX2_copyFrom cX2_copyFrom 2 none, Cond.fieldLink RX2 9 "StakeWeirs$Weir" "place" "I", Cond.fieldLink RX2 15 "StakeWeirs$Weir" "stakes" "I", Cond.fieldLink RX2 18 "StakeWeirs$Weir" "wattle" "I", Cond.fieldLink RX2 21 "StakeWeirs$Weir" "rent" "I", Cond.fieldLink RX2 24 "StakeWeirs$Weir" "coins" "I", Cond.fieldLink RX2 27 "StakeWeirs$Weir" "eels" "I", Cond.fieldLink RX2 30 "StakeWeirs$Weir" "open" "Z", Cond.fieldLink RX2 34 "StakeWeirs$Weir" "owed" "I"]
def wsX3_catches_r3 : List Cond := [Cond.methodLink RX1 54 yX1_bargeAt, Cond.instanceMethod yX1_bargeAt, Cond.selects RX1 yX1_bargeAt yX1_bargeAt, Cond.code yX1_bargeAt cX1_bargeAt 3 (some (.object "StakeWeirs$Barge")), Cond.fieldLink RX1 27 "StakeWeirs$Estuary" "barges" "[LStakeWeirs$Barge;", Cond.methodLink RX1 58 yX1_copyBarge, Cond.static yX1_copyBarge, Cond.code yX1_copyBarge cX1_copyBarge 2 none, Cond.methodLink RX1 78 yX0_copyFrom, Cond.instanceMethod yX0_copyFrom, Cond.selects RX0 yX0_copyFrom yX0_copyFrom, Cond.initialized RX0, Cond.code yX0_copyFrom cX0_copyFrom 2 none, Cond.fieldLink RX0 9 "StakeWeirs$Barge" "ticket" "I", Cond.fieldLink RX0 15 "StakeWeirs$Barge" "wide" "I", Cond.fieldLink RX0 18 "StakeWeirs$Barge" "place" "I", Cond.fieldLink RX0 21 "StakeWeirs$Barge" "broken" "I", Cond.methodLink RX3 153 yX1_catchEels, Cond.instanceMethod yX1_catchEels, Cond.selects RX1 yX1_catchEels yX1_catchEels, Cond.code yX1_catchEels cX1_catchEels 4 none, Cond.methodLink RX1 111 yX1_run, Cond.instanceMethod yX1_run, Cond.selects RX1 yX1_run yX1_run]
def wsX3_catches_r4 : List Cond := [Cond.code yX1_run cX1_run 3 (some .int), Cond.methodLink RX1 101 yJ9_floorMod_7cf53, Cond.static yJ9_floorMod_7cf53, Cond.initialized RJ9, Cond.code yJ9_floorMod_7cf53 cJ9_floorMod_7cf53 3 (some .int), Cond.methodLink RX1 107 yX1_moon, Cond.instanceMethod yX1_moon, Cond.selects RX1 yX1_moon yX1_moon, Cond.code yX1_moon cX1_moon 2 (some .int), Cond.methodLink RX1 163 yX2_isFishing, Cond.instanceMethod yX2_isFishing, Cond.selects RX2 yX2_isFishing yX2_isFishing, Cond.code yX2_isFishing cX2_isFishing 1 (some .boolean), Cond.methodLink RX1 166 yX2_catchOf, Cond.instanceMethod yX2_catchOf, Cond.selects RX2 yX2_catchOf yX2_catchOf, Cond.code yX2_catchOf cX2_catchOf 3 (some .int), Cond.methodLink RX2 41 Lib.Math.min.name, Cond.static Lib.Math.min.name, Cond.initialized "java/lang/Math", Cond.code Lib.Math.min.name Lib.Math.min.code 2 (some .int)]
def wsX3_catches : List Cond := .code yX3_catches cX3_catches 4 (some .int) :: ((wsX3_catches_r1 ++ (wsX3_catches_r2 ++ (wsX3_catches_r3 ++ wsX3_catches_r4))) ++ wsX30 ++ wsX20 ++ wsX10 ++ wsX00 ++ (vx_atS RX3 51 "java/lang/IndexOutOfBoundsException" ["java/lang/RuntimeException", "java/lang/Exception"]).filter goodWord)
def wsX3_arrives_r1 : List Cond := [Cond.classLink RX3 47 "java/lang/IndexOutOfBoundsException", Cond.initialized "java/lang/IndexOutOfBoundsException", Cond.fieldLink RX3 12 "StakeWeirs" "now" "LStakeWeirs$Estuary;", Cond.fieldLink RX3 16 "StakeWeirs" "trial" "LStakeWeirs$Estuary;", Cond.fieldLink RX3 158 "StakeWeirs$Barge" "ticket" "I", Cond.methodLink RX3 121 yX1_bargeAt, Cond.instanceMethod yX1_bargeAt, Cond.selects RX1 yX1_bargeAt yX1_bargeAt, Cond.initialized RX1, Cond.code yX1_bargeAt cX1_bargeAt 3 (some (.object "StakeWeirs$Barge")), Cond.fieldLink RX1 51 "StakeWeirs$Estuary" "bargeCount" "I", Cond.fieldLink RX1 27 "StakeWeirs$Estuary" "barges" "[LStakeWeirs$Barge;", Cond.methodLink RX3 149 yX1_copyFrom, Cond.instanceMethod yX1_copyFrom, Cond.selects RX1 yX1_copyFrom yX1_copyFrom, Cond.code yX1_copyFrom cX1_copyFrom 3 none, Cond.fieldLink RX1 9 "StakeWeirs$Estuary" "table" "[I", Cond.fieldLink RX1 15 "StakeWeirs$Estuary" "order" "[I", Cond.fieldLink RX1 39 "StakeWeirs$Estuary" "weirCount" "I", Cond.fieldLink RX1 62 "StakeWeirs$Estuary" "night" "I", Cond.fieldLink RX1 65 "StakeWeirs$Estuary" "arrived" "I", Cond.fieldLink RX1 68 "StakeWeirs$Estuary" "fines" "I", Cond.fieldLink RX1 71 "StakeWeirs$Estuary" "rents" "I", Cond.methodLink RX1 32 yX1_tableEels]
def wsX3_arrives_r2 : List Cond := [Cond.instanceMethod yX1_tableEels, Cond.selects RX1 yX1_tableEels yX1_tableEels, Cond.code yX1_tableEels cX1_tableEels 2 (some .int), Cond.methodLink RX1 36 yX1_inOrder, Cond.instanceMethod yX1_inOrder, Cond.selects RX1 yX1_inOrder yX1_inOrder, Cond.code yX1_inOrder cX1_inOrder 2 (some .int), Cond.methodLink RX1 43 yX1_weirAt, Cond.instanceMethod yX1_weirAt, Cond.selects RX1 yX1_weirAt yX1_weirAt, Cond.code yX1_weirAt cX1_weirAt 3 (some (.object "StakeWeirs$Weir")), Cond.fieldLink RX1 20 "StakeWeirs$Estuary" "weirs" "[LStakeWeirs$Weir;", Cond.methodLink RX1 47 yX1_copyWeir, Cond.static yX1_copyWeir, Cond.code yX1_copyWeir cX1_copyWeir 2 none, Cond.methodLink RX1 74 yX2_copyFrom, Cond.instanceMethod yX2_copyFrom, Cond.selects RX2 yX2_copyFrom yX2_copyFrom, Cond.initialized RX2, Cond.code yX2_copyFrom cX2_copyFrom 2 none, Cond.fieldLink RX2 9 "StakeWeirs$Weir" "place" "I", Cond.fieldLink RX2 15 "StakeWeirs$Weir" "stakes" "I", Cond.fieldLink RX2 18 "StakeWeirs$Weir" "wattle" "I", Cond.fieldLink RX2 21 "StakeWeirs$Weir" "rent" "I"]
def wsX3_arrives_r3 : List Cond := [Cond.fieldLink RX2 24 "StakeWeirs$Weir" "coins" "I", Cond.fieldLink RX2 27 "StakeWeirs$Weir" "eels" "I", Cond.fieldLink RX2 30 "StakeWeirs$Weir" "open" "Z", Cond.fieldLink RX2 34 "StakeWeirs$Weir" "owed" "I", Cond.methodLink RX1 54 yX1_bargeAt, Cond.methodLink RX1 58 yX1_copyBarge, Cond.static yX1_copyBarge, Cond.code yX1_copyBarge cX1_copyBarge 2 none, Cond.methodLink RX1 78 yX0_copyFrom, Cond.instanceMethod yX0_copyFrom, Cond.selects RX0 yX0_copyFrom yX0_copyFrom, Cond.initialized RX0, Cond.code yX0_copyFrom cX0_copyFrom 2 none, Cond.fieldLink RX0 9 "StakeWeirs$Barge" "ticket" "I", Cond.fieldLink RX0 15 "StakeWeirs$Barge" "wide" "I", Cond.fieldLink RX0 18 "StakeWeirs$Barge" "place" "I", Cond.fieldLink RX0 21 "StakeWeirs$Barge" "broken" "I", Cond.methodLink RX3 163 yX1_isUnderWay, Cond.instanceMethod yX1_isUnderWay, Cond.selects RX1 yX1_isUnderWay yX1_isUnderWay, Cond.code yX1_isUnderWay cX1_isUnderWay 4 (some .boolean), Cond.fieldLink RX1 98 "StakeWeirs$Barge" "ticket" "I", Cond.methodLink RX3 145 yX1_goThroughNights, Cond.instanceMethod yX1_goThroughNights]
def wsX3_arrives_r4 : List Cond := [Cond.selects RX1 yX1_goThroughNights yX1_goThroughNights, Cond.code yX1_goThroughNights cX1_goThroughNights 3 none, Cond.methodLink RX1 148 yX1_catchEels, Cond.instanceMethod yX1_catchEels, Cond.selects RX1 yX1_catchEels yX1_catchEels, Cond.code yX1_catchEels cX1_catchEels 4 none, Cond.methodLink RX1 111 yX1_run, Cond.instanceMethod yX1_run, Cond.selects RX1 yX1_run yX1_run, Cond.code yX1_run cX1_run 3 (some .int), Cond.methodLink RX1 101 yJ9_floorMod_7cf53, Cond.static yJ9_floorMod_7cf53, Cond.initialized RJ9, Cond.code yJ9_floorMod_7cf53 cJ9_floorMod_7cf53 3 (some .int), Cond.methodLink RX1 107 yX1_moon, Cond.instanceMethod yX1_moon, Cond.selects RX1 yX1_moon yX1_moon, Cond.code yX1_moon cX1_moon 2 (some .int), Cond.methodLink RX1 163 yX2_isFishing, Cond.instanceMethod yX2_isFishing, Cond.selects RX2 yX2_isFishing yX2_isFishing, Cond.code yX2_isFishing cX2_isFishing 1 (some .boolean), Cond.methodLink RX1 166 yX2_catchOf, Cond.instanceMethod yX2_catchOf]
def wsX3_arrives_r5 : List Cond := [Cond.selects RX2 yX2_catchOf yX2_catchOf, Cond.code yX2_catchOf cX2_catchOf 3 (some .int), Cond.methodLink RX2 41 Lib.Math.min.name, Cond.static Lib.Math.min.name, Cond.initialized "java/lang/Math", Cond.code Lib.Math.min.name Lib.Math.min.code 2 (some .int), Cond.methodLink RX1 151 yX1_moveBarges, Cond.instanceMethod yX1_moveBarges, Cond.selects RX1 yX1_moveBarges yX1_moveBarges, Cond.code yX1_moveBarges cX1_moveBarges 4 none, Cond.fieldLink RX1 93 "StakeWeirs$Weir" "place" "I", Cond.methodLink RX1 127 yX1_nextInWay, Cond.instanceMethod yX1_nextInWay, Cond.selects RX1 yX1_nextInWay yX1_nextInWay, Cond.code yX1_nextInWay cX1_nextInWay 6 (some .int), Cond.fieldLink RX1 123 "StakeWeirs$Barge" "place" "I", Cond.fieldLink RX1 120 "StakeWeirs$Barge" "wide" "I", Cond.methodLink RX1 141 yX2_isInWay, Cond.instanceMethod yX2_isInWay, Cond.selects RX2 yX2_isInWay yX2_isInWay, Cond.code yX2_isInWay cX2_isInWay 2 (some .boolean), Cond.methodLink RX2 37 yX2_isFishing, Cond.methodLink RX1 169 yX0_goOn, Cond.instanceMethod yX0_goOn]
def wsX3_arrives_r6 : List Cond := [Cond.selects RX0 yX0_goOn yX0_goOn, Cond.code yX0_goOn cX0_goOn 2 none, Cond.methodLink RX0 24 Lib.Math.min.name, Cond.methodLink RX1 173 yX1_breakThrough, Cond.instanceMethod yX1_breakThrough, Cond.selects RX1 yX1_breakThrough yX1_breakThrough, Cond.code yX1_breakThrough cX1_breakThrough 4 none, Cond.fieldLink RX1 124 "StakeWeirs$Barge" "broken" "I", Cond.methodLink RX1 176 yX2_breakFor, Cond.instanceMethod yX2_breakFor, Cond.selects RX2 yX2_breakFor yX2_breakFor, Cond.code yX2_breakFor cX2_breakFor 3 (some .int), Cond.methodLink RX2 47 yX2_loseWattle, Cond.instanceMethod yX2_loseWattle, Cond.selects RX2 yX2_loseWattle yX2_loseWattle, Cond.code yX2_loseWattle cX2_loseWattle 2 none, Cond.methodLink RX1 154 yX1_leaveOutArrived, Cond.instanceMethod yX1_leaveOutArrived, Cond.selects RX1 yX1_leaveOutArrived yX1_leaveOutArrived, Cond.code yX1_leaveOutArrived cX1_leaveOutArrived 4 none, Cond.methodLink RX1 157 yX1_rotWattle, Cond.instanceMethod yX1_rotWattle, Cond.selects RX1 yX1_rotWattle yX1_rotWattle, Cond.code yX1_rotWattle cX1_rotWattle 4 none]
def wsX3_arrives_r7 : List Cond := [Cond.methodLink RX1 131 yX2_isHeld, Cond.instanceMethod yX2_isHeld, Cond.selects RX2 yX2_isHeld yX2_isHeld, Cond.code yX2_isHeld cX2_isHeld 1 (some .boolean), Cond.methodLink RX1 179 yX2_loseWattle, Cond.methodLink RX1 160 yX1_collectRents, Cond.instanceMethod yX1_collectRents, Cond.selects RX1 yX1_collectRents yX1_collectRents, Cond.code yX1_collectRents cX1_collectRents 3 none, Cond.methodLink RX1 182 yX2_payRent, Cond.instanceMethod yX2_payRent, Cond.selects RX2 yX2_payRent yX2_payRent, Cond.code yX2_payRent cX2_payRent 1 (some .int)]
def wsX3_arrives : List Cond := .code yX3_arrives cX3_arrives 4 (some .int) :: ((wsX3_arrives_r1 ++ (wsX3_arrives_r2 ++ (wsX3_arrives_r3 ++ (wsX3_arrives_r4 ++ (wsX3_arrives_r5 ++ (wsX3_arrives_r6 ++ wsX3_arrives_r7)))))) ++ wsX30 ++ wsX00 ++ wsX10 ++ wsX20 ++ (vx_atS RX3 51 "java/lang/IndexOutOfBoundsException" ["java/lang/RuntimeException", "java/lang/Exception"]).filter goodWord)
def wsX3_lasts_r1 : List Cond := [Cond.classLink RX3 47 "java/lang/IndexOutOfBoundsException", Cond.initialized "java/lang/IndexOutOfBoundsException", Cond.fieldLink RX3 12 "StakeWeirs" "now" "LStakeWeirs$Estuary;", Cond.fieldLink RX3 16 "StakeWeirs" "trial" "LStakeWeirs$Estuary;", Cond.fieldLink RX3 66 "StakeWeirs$Weir" "wattle" "I", Cond.methodLink RX3 43 yX1_weirAt, Cond.instanceMethod yX1_weirAt, Cond.selects RX1 yX1_weirAt yX1_weirAt, Cond.initialized RX1, Cond.code yX1_weirAt cX1_weirAt 3 (some (.object "StakeWeirs$Weir")), Cond.fieldLink RX1 39 "StakeWeirs$Estuary" "weirCount" "I", Cond.fieldLink RX1 20 "StakeWeirs$Estuary" "weirs" "[LStakeWeirs$Weir;", Cond.methodLink RX3 149 yX1_copyFrom, Cond.instanceMethod yX1_copyFrom, Cond.selects RX1 yX1_copyFrom yX1_copyFrom, Cond.code yX1_copyFrom cX1_copyFrom 3 none, Cond.fieldLink RX1 9 "StakeWeirs$Estuary" "table" "[I", Cond.fieldLink RX1 15 "StakeWeirs$Estuary" "order" "[I", Cond.fieldLink RX1 51 "StakeWeirs$Estuary" "bargeCount" "I", Cond.fieldLink RX1 62 "StakeWeirs$Estuary" "night" "I", Cond.fieldLink RX1 65 "StakeWeirs$Estuary" "arrived" "I", Cond.fieldLink RX1 68 "StakeWeirs$Estuary" "fines" "I", Cond.fieldLink RX1 71 "StakeWeirs$Estuary" "rents" "I", Cond.methodLink RX1 32 yX1_tableEels]
def wsX3_lasts_r2 : List Cond := [Cond.instanceMethod yX1_tableEels, Cond.selects RX1 yX1_tableEels yX1_tableEels, Cond.code yX1_tableEels cX1_tableEels 2 (some .int), Cond.methodLink RX1 36 yX1_inOrder, Cond.instanceMethod yX1_inOrder, Cond.selects RX1 yX1_inOrder yX1_inOrder, Cond.code yX1_inOrder cX1_inOrder 2 (some .int), Cond.methodLink RX1 43 yX1_weirAt, Cond.methodLink RX1 47 yX1_copyWeir, Cond.static yX1_copyWeir, Cond.code yX1_copyWeir cX1_copyWeir 2 none, Cond.methodLink RX1 74 yX2_copyFrom, Cond.instanceMethod yX2_copyFrom, Cond.selects RX2 yX2_copyFrom yX2_copyFrom, Cond.initialized RX2, Cond.code yX2_copyFrom cX2_copyFrom 2 none, Cond.fieldLink RX2 9 "StakeWeirs$Weir" "place" "I", Cond.fieldLink RX2 15 "StakeWeirs$Weir" "stakes" "I", Cond.fieldLink RX2 18 "StakeWeirs$Weir" "wattle" "I", Cond.fieldLink RX2 21 "StakeWeirs$Weir" "rent" "I", Cond.fieldLink RX2 24 "StakeWeirs$Weir" "coins" "I", Cond.fieldLink RX2 27 "StakeWeirs$Weir" "eels" "I", Cond.fieldLink RX2 30 "StakeWeirs$Weir" "open" "Z", Cond.fieldLink RX2 34 "StakeWeirs$Weir" "owed" "I"]
def wsX3_lasts_r3 : List Cond := [Cond.methodLink RX1 54 yX1_bargeAt, Cond.instanceMethod yX1_bargeAt, Cond.selects RX1 yX1_bargeAt yX1_bargeAt, Cond.code yX1_bargeAt cX1_bargeAt 3 (some (.object "StakeWeirs$Barge")), Cond.fieldLink RX1 27 "StakeWeirs$Estuary" "barges" "[LStakeWeirs$Barge;", Cond.methodLink RX1 58 yX1_copyBarge, Cond.static yX1_copyBarge, Cond.code yX1_copyBarge cX1_copyBarge 2 none, Cond.methodLink RX1 78 yX0_copyFrom, Cond.instanceMethod yX0_copyFrom, Cond.selects RX0 yX0_copyFrom yX0_copyFrom, Cond.initialized RX0, Cond.code yX0_copyFrom cX0_copyFrom 2 none, Cond.fieldLink RX0 9 "StakeWeirs$Barge" "ticket" "I", Cond.fieldLink RX0 15 "StakeWeirs$Barge" "wide" "I", Cond.fieldLink RX0 18 "StakeWeirs$Barge" "place" "I", Cond.fieldLink RX0 21 "StakeWeirs$Barge" "broken" "I", Cond.methodLink RX3 52 yX2_isHeld, Cond.instanceMethod yX2_isHeld, Cond.selects RX2 yX2_isHeld yX2_isHeld, Cond.code yX2_isHeld cX2_isHeld 1 (some .boolean), Cond.methodLink RX3 145 yX1_goThroughNights, Cond.instanceMethod yX1_goThroughNights, Cond.selects RX1 yX1_goThroughNights yX1_goThroughNights]
def wsX3_lasts_r4 : List Cond := [Cond.code yX1_goThroughNights cX1_goThroughNights 3 none, Cond.methodLink RX1 148 yX1_catchEels, Cond.instanceMethod yX1_catchEels, Cond.selects RX1 yX1_catchEels yX1_catchEels, Cond.code yX1_catchEels cX1_catchEels 4 none, Cond.methodLink RX1 111 yX1_run, Cond.instanceMethod yX1_run, Cond.selects RX1 yX1_run yX1_run, Cond.code yX1_run cX1_run 3 (some .int), Cond.methodLink RX1 101 yJ9_floorMod_7cf53, Cond.static yJ9_floorMod_7cf53, Cond.initialized RJ9, Cond.code yJ9_floorMod_7cf53 cJ9_floorMod_7cf53 3 (some .int), Cond.methodLink RX1 107 yX1_moon, Cond.instanceMethod yX1_moon, Cond.selects RX1 yX1_moon yX1_moon, Cond.code yX1_moon cX1_moon 2 (some .int), Cond.methodLink RX1 163 yX2_isFishing, Cond.instanceMethod yX2_isFishing, Cond.selects RX2 yX2_isFishing yX2_isFishing, Cond.code yX2_isFishing cX2_isFishing 1 (some .boolean), Cond.methodLink RX1 166 yX2_catchOf, Cond.instanceMethod yX2_catchOf, Cond.selects RX2 yX2_catchOf yX2_catchOf]
def wsX3_lasts_r5 : List Cond := [Cond.code yX2_catchOf cX2_catchOf 3 (some .int), Cond.methodLink RX2 41 Lib.Math.min.name, Cond.static Lib.Math.min.name, Cond.initialized "java/lang/Math", Cond.code Lib.Math.min.name Lib.Math.min.code 2 (some .int), Cond.methodLink RX1 151 yX1_moveBarges, Cond.instanceMethod yX1_moveBarges, Cond.selects RX1 yX1_moveBarges yX1_moveBarges, Cond.code yX1_moveBarges cX1_moveBarges 4 none, Cond.fieldLink RX1 93 "StakeWeirs$Weir" "place" "I", Cond.methodLink RX1 127 yX1_nextInWay, Cond.instanceMethod yX1_nextInWay, Cond.selects RX1 yX1_nextInWay yX1_nextInWay, Cond.code yX1_nextInWay cX1_nextInWay 6 (some .int), Cond.fieldLink RX1 123 "StakeWeirs$Barge" "place" "I", Cond.fieldLink RX1 120 "StakeWeirs$Barge" "wide" "I", Cond.methodLink RX1 141 yX2_isInWay, Cond.instanceMethod yX2_isInWay, Cond.selects RX2 yX2_isInWay yX2_isInWay, Cond.code yX2_isInWay cX2_isInWay 2 (some .boolean), Cond.methodLink RX2 37 yX2_isFishing, Cond.methodLink RX1 169 yX0_goOn, Cond.instanceMethod yX0_goOn, Cond.selects RX0 yX0_goOn yX0_goOn]
def wsX3_lasts_r6 : List Cond := [Cond.code yX0_goOn cX0_goOn 2 none, Cond.methodLink RX0 24 Lib.Math.min.name, Cond.methodLink RX1 173 yX1_breakThrough, Cond.instanceMethod yX1_breakThrough, Cond.selects RX1 yX1_breakThrough yX1_breakThrough, Cond.code yX1_breakThrough cX1_breakThrough 4 none, Cond.fieldLink RX1 124 "StakeWeirs$Barge" "broken" "I", Cond.methodLink RX1 176 yX2_breakFor, Cond.instanceMethod yX2_breakFor, Cond.selects RX2 yX2_breakFor yX2_breakFor, Cond.code yX2_breakFor cX2_breakFor 3 (some .int), Cond.methodLink RX2 47 yX2_loseWattle, Cond.instanceMethod yX2_loseWattle, Cond.selects RX2 yX2_loseWattle yX2_loseWattle, Cond.code yX2_loseWattle cX2_loseWattle 2 none, Cond.methodLink RX1 154 yX1_leaveOutArrived, Cond.instanceMethod yX1_leaveOutArrived, Cond.selects RX1 yX1_leaveOutArrived yX1_leaveOutArrived, Cond.code yX1_leaveOutArrived cX1_leaveOutArrived 4 none, Cond.methodLink RX1 157 yX1_rotWattle, Cond.instanceMethod yX1_rotWattle, Cond.selects RX1 yX1_rotWattle yX1_rotWattle, Cond.code yX1_rotWattle cX1_rotWattle 4 none, Cond.methodLink RX1 131 yX2_isHeld]
def wsX3_lasts_r7 : List Cond := [Cond.methodLink RX1 179 yX2_loseWattle, Cond.methodLink RX1 160 yX1_collectRents, Cond.instanceMethod yX1_collectRents, Cond.selects RX1 yX1_collectRents yX1_collectRents, Cond.code yX1_collectRents cX1_collectRents 3 none, Cond.methodLink RX1 182 yX2_payRent, Cond.instanceMethod yX2_payRent, Cond.selects RX2 yX2_payRent yX2_payRent, Cond.code yX2_payRent cX2_payRent 1 (some .int)]
def wsX3_lasts : List Cond := .code yX3_lasts cX3_lasts 4 (some .int) :: ((wsX3_lasts_r1 ++ (wsX3_lasts_r2 ++ (wsX3_lasts_r3 ++ (wsX3_lasts_r4 ++ (wsX3_lasts_r5 ++ (wsX3_lasts_r6 ++ wsX3_lasts_r7)))))) ++ wsX30 ++ wsX20 ++ wsX10 ++ wsX00 ++ (vx_atS RX3 51 "java/lang/IndexOutOfBoundsException" ["java/lang/RuntimeException", "java/lang/Exception"]).filter goodWord)
def wsX3_foresee_r1 : List Cond := [Cond.classLink RX3 23 "java/lang/IllegalArgumentException", Cond.initialized "java/lang/IllegalArgumentException", Cond.classLink RX3 47 "java/lang/IndexOutOfBoundsException", Cond.initialized "java/lang/IndexOutOfBoundsException", Cond.fieldLink RX3 16 "StakeWeirs" "trial" "LStakeWeirs$Estuary;", Cond.fieldLink RX3 12 "StakeWeirs" "now" "LStakeWeirs$Estuary;", Cond.methodLink RX3 19 yX3_isWithin, Cond.static yX3_isWithin, Cond.initialized RX3, Cond.code yX3_isWithin cX3_isWithin 3 (some .boolean), Cond.methodLink RX3 149 yX1_copyFrom, Cond.instanceMethod yX1_copyFrom, Cond.selects RX1 yX1_copyFrom yX1_copyFrom, Cond.initialized RX1, Cond.code yX1_copyFrom cX1_copyFrom 3 none, Cond.fieldLink RX1 9 "StakeWeirs$Estuary" "table" "[I", Cond.fieldLink RX1 15 "StakeWeirs$Estuary" "order" "[I", Cond.fieldLink RX1 39 "StakeWeirs$Estuary" "weirCount" "I", Cond.fieldLink RX1 51 "StakeWeirs$Estuary" "bargeCount" "I", Cond.fieldLink RX1 62 "StakeWeirs$Estuary" "night" "I", Cond.fieldLink RX1 65 "StakeWeirs$Estuary" "arrived" "I", Cond.fieldLink RX1 68 "StakeWeirs$Estuary" "fines" "I", Cond.fieldLink RX1 71 "StakeWeirs$Estuary" "rents" "I", Cond.methodLink RX1 32 yX1_tableEels]
def wsX3_foresee_r2 : List Cond := [Cond.instanceMethod yX1_tableEels, Cond.selects RX1 yX1_tableEels yX1_tableEels, Cond.code yX1_tableEels cX1_tableEels 2 (some .int), Cond.methodLink RX1 36 yX1_inOrder, Cond.instanceMethod yX1_inOrder, Cond.selects RX1 yX1_inOrder yX1_inOrder, Cond.code yX1_inOrder cX1_inOrder 2 (some .int), Cond.methodLink RX1 43 yX1_weirAt, Cond.instanceMethod yX1_weirAt, Cond.selects RX1 yX1_weirAt yX1_weirAt, Cond.code yX1_weirAt cX1_weirAt 3 (some (.object "StakeWeirs$Weir")), Cond.fieldLink RX1 20 "StakeWeirs$Estuary" "weirs" "[LStakeWeirs$Weir;", Cond.methodLink RX1 47 yX1_copyWeir, Cond.static yX1_copyWeir, Cond.code yX1_copyWeir cX1_copyWeir 2 none, Cond.methodLink RX1 74 yX2_copyFrom, Cond.instanceMethod yX2_copyFrom, Cond.selects RX2 yX2_copyFrom yX2_copyFrom, Cond.initialized RX2, Cond.code yX2_copyFrom cX2_copyFrom 2 none, Cond.fieldLink RX2 9 "StakeWeirs$Weir" "place" "I", Cond.fieldLink RX2 15 "StakeWeirs$Weir" "stakes" "I", Cond.fieldLink RX2 18 "StakeWeirs$Weir" "wattle" "I", Cond.fieldLink RX2 21 "StakeWeirs$Weir" "rent" "I"]
def wsX3_foresee_r3 : List Cond := [Cond.fieldLink RX2 24 "StakeWeirs$Weir" "coins" "I", Cond.fieldLink RX2 27 "StakeWeirs$Weir" "eels" "I", Cond.fieldLink RX2 30 "StakeWeirs$Weir" "open" "Z", Cond.fieldLink RX2 34 "StakeWeirs$Weir" "owed" "I", Cond.methodLink RX1 54 yX1_bargeAt, Cond.instanceMethod yX1_bargeAt, Cond.selects RX1 yX1_bargeAt yX1_bargeAt, Cond.code yX1_bargeAt cX1_bargeAt 3 (some (.object "StakeWeirs$Barge")), Cond.fieldLink RX1 27 "StakeWeirs$Estuary" "barges" "[LStakeWeirs$Barge;", Cond.methodLink RX1 58 yX1_copyBarge, Cond.static yX1_copyBarge, Cond.code yX1_copyBarge cX1_copyBarge 2 none, Cond.methodLink RX1 78 yX0_copyFrom, Cond.instanceMethod yX0_copyFrom, Cond.selects RX0 yX0_copyFrom yX0_copyFrom, Cond.initialized RX0, Cond.code yX0_copyFrom cX0_copyFrom 2 none, Cond.fieldLink RX0 9 "StakeWeirs$Barge" "ticket" "I", Cond.fieldLink RX0 15 "StakeWeirs$Barge" "wide" "I", Cond.fieldLink RX0 18 "StakeWeirs$Barge" "place" "I", Cond.fieldLink RX0 21 "StakeWeirs$Barge" "broken" "I", Cond.methodLink RX3 145 yX1_goThroughNights, Cond.instanceMethod yX1_goThroughNights, Cond.selects RX1 yX1_goThroughNights yX1_goThroughNights]
def wsX3_foresee_r4 : List Cond := [Cond.code yX1_goThroughNights cX1_goThroughNights 3 none, Cond.methodLink RX1 148 yX1_catchEels, Cond.instanceMethod yX1_catchEels, Cond.selects RX1 yX1_catchEels yX1_catchEels, Cond.code yX1_catchEels cX1_catchEels 4 none, Cond.methodLink RX1 111 yX1_run, Cond.instanceMethod yX1_run, Cond.selects RX1 yX1_run yX1_run, Cond.code yX1_run cX1_run 3 (some .int), Cond.methodLink RX1 101 yJ9_floorMod_7cf53, Cond.static yJ9_floorMod_7cf53, Cond.initialized RJ9, Cond.code yJ9_floorMod_7cf53 cJ9_floorMod_7cf53 3 (some .int), Cond.methodLink RX1 107 yX1_moon, Cond.instanceMethod yX1_moon, Cond.selects RX1 yX1_moon yX1_moon, Cond.code yX1_moon cX1_moon 2 (some .int), Cond.methodLink RX1 163 yX2_isFishing, Cond.instanceMethod yX2_isFishing, Cond.selects RX2 yX2_isFishing yX2_isFishing, Cond.code yX2_isFishing cX2_isFishing 1 (some .boolean), Cond.methodLink RX1 166 yX2_catchOf, Cond.instanceMethod yX2_catchOf, Cond.selects RX2 yX2_catchOf yX2_catchOf]
def wsX3_foresee_r5 : List Cond := [Cond.code yX2_catchOf cX2_catchOf 3 (some .int), Cond.methodLink RX2 41 Lib.Math.min.name, Cond.static Lib.Math.min.name, Cond.initialized "java/lang/Math", Cond.code Lib.Math.min.name Lib.Math.min.code 2 (some .int), Cond.methodLink RX1 151 yX1_moveBarges, Cond.instanceMethod yX1_moveBarges, Cond.selects RX1 yX1_moveBarges yX1_moveBarges, Cond.code yX1_moveBarges cX1_moveBarges 4 none, Cond.fieldLink RX1 93 "StakeWeirs$Weir" "place" "I", Cond.methodLink RX1 127 yX1_nextInWay, Cond.instanceMethod yX1_nextInWay, Cond.selects RX1 yX1_nextInWay yX1_nextInWay, Cond.code yX1_nextInWay cX1_nextInWay 6 (some .int), Cond.fieldLink RX1 123 "StakeWeirs$Barge" "place" "I", Cond.fieldLink RX1 120 "StakeWeirs$Barge" "wide" "I", Cond.methodLink RX1 141 yX2_isInWay, Cond.instanceMethod yX2_isInWay, Cond.selects RX2 yX2_isInWay yX2_isInWay, Cond.code yX2_isInWay cX2_isInWay 2 (some .boolean), Cond.methodLink RX2 37 yX2_isFishing, Cond.methodLink RX1 169 yX0_goOn, Cond.instanceMethod yX0_goOn, Cond.selects RX0 yX0_goOn yX0_goOn]
def wsX3_foresee_r6 : List Cond := [Cond.code yX0_goOn cX0_goOn 2 none, Cond.methodLink RX0 24 Lib.Math.min.name, Cond.methodLink RX1 173 yX1_breakThrough, Cond.instanceMethod yX1_breakThrough, Cond.selects RX1 yX1_breakThrough yX1_breakThrough, Cond.code yX1_breakThrough cX1_breakThrough 4 none, Cond.fieldLink RX1 124 "StakeWeirs$Barge" "broken" "I", Cond.methodLink RX1 176 yX2_breakFor, Cond.instanceMethod yX2_breakFor, Cond.selects RX2 yX2_breakFor yX2_breakFor, Cond.code yX2_breakFor cX2_breakFor 3 (some .int), Cond.methodLink RX2 47 yX2_loseWattle, Cond.instanceMethod yX2_loseWattle, Cond.selects RX2 yX2_loseWattle yX2_loseWattle, Cond.code yX2_loseWattle cX2_loseWattle 2 none, Cond.methodLink RX1 154 yX1_leaveOutArrived, Cond.instanceMethod yX1_leaveOutArrived, Cond.selects RX1 yX1_leaveOutArrived yX1_leaveOutArrived, Cond.code yX1_leaveOutArrived cX1_leaveOutArrived 4 none, Cond.methodLink RX1 157 yX1_rotWattle, Cond.instanceMethod yX1_rotWattle, Cond.selects RX1 yX1_rotWattle yX1_rotWattle, Cond.code yX1_rotWattle cX1_rotWattle 4 none, Cond.methodLink RX1 131 yX2_isHeld]
def wsX3_foresee_r7 : List Cond := [Cond.instanceMethod yX2_isHeld, Cond.selects RX2 yX2_isHeld yX2_isHeld, Cond.code yX2_isHeld cX2_isHeld 1 (some .boolean), Cond.methodLink RX1 179 yX2_loseWattle, Cond.methodLink RX1 160 yX1_collectRents, Cond.instanceMethod yX1_collectRents, Cond.selects RX1 yX1_collectRents yX1_collectRents, Cond.code yX1_collectRents cX1_collectRents 3 none, Cond.methodLink RX1 182 yX2_payRent, Cond.instanceMethod yX2_payRent, Cond.selects RX2 yX2_payRent yX2_payRent, Cond.code yX2_payRent cX2_payRent 1 (some .int), Cond.methodLink RX3 133 yX1_fact, Cond.instanceMethod yX1_fact, Cond.selects RX1 yX1_fact yX1_fact, Cond.code yX1_fact cX1_fact 2 (some .int), Cond.methodLink RX1 114 yX1_heldWeirs, Cond.instanceMethod yX1_heldWeirs, Cond.selects RX1 yX1_heldWeirs yX1_heldWeirs, Cond.code yX1_heldWeirs cX1_heldWeirs 4 (some .int), Cond.methodLink RX1 117 yX1_allEels, Cond.instanceMethod yX1_allEels, Cond.selects RX1 yX1_allEels yX1_allEels, Cond.code yX1_allEels cX1_allEels 4 (some .int)]
def wsX3_foresee_r8 : List Cond := [Cond.fieldLink RX1 138 "StakeWeirs$Weir" "eels" "I"]
def wsX3_foresee : List Cond := .code yX3_foresee cX3_foresee 3 (some .int) :: ((wsX3_foresee_r1 ++ (wsX3_foresee_r2 ++ (wsX3_foresee_r3 ++ (wsX3_foresee_r4 ++ (wsX3_foresee_r5 ++ (wsX3_foresee_r6 ++ (wsX3_foresee_r7 ++ wsX3_foresee_r8))))))) ++ wsX30 ++ wsX10 ++ wsX20 ++ wsX00 ++ (vx_atS RX3 27 "java/lang/IllegalArgumentException" ["java/lang/RuntimeException", "java/lang/Exception"]).filter goodWord ++ (vx_atS RX3 51 "java/lang/IndexOutOfBoundsException" ["java/lang/RuntimeException", "java/lang/Exception"]).filter goodWord)
def wsX3_eelsWithStakes_r1 : List Cond := [Cond.fieldLink RX3 16 "StakeWeirs" "trial" "LStakeWeirs$Estuary;", Cond.fieldLink RX3 12 "StakeWeirs" "now" "LStakeWeirs$Estuary;", Cond.fieldLink RX3 76 "StakeWeirs$Weir" "stakes" "I", Cond.fieldLink RX3 81 "StakeWeirs$Weir" "eels" "I", Cond.methodLink RX3 149 yX1_copyFrom, Cond.instanceMethod yX1_copyFrom, Cond.selects RX1 yX1_copyFrom yX1_copyFrom, Cond.initialized RX1, Cond.code yX1_copyFrom cX1_copyFrom 3 none, Cond.fieldLink RX1 9 "StakeWeirs$Estuary" "table" "[I", Cond.fieldLink RX1 15 "StakeWeirs$Estuary" "order" "[I", Cond.fieldLink RX1 39 "StakeWeirs$Estuary" "weirCount" "I", Cond.fieldLink RX1 51 "StakeWeirs$Estuary" "bargeCount" "I", Cond.fieldLink RX1 62 "StakeWeirs$Estuary" "night" "I", Cond.fieldLink RX1 65 "StakeWeirs$Estuary" "arrived" "I", Cond.fieldLink RX1 68 "StakeWeirs$Estuary" "fines" "I", Cond.fieldLink RX1 71 "StakeWeirs$Estuary" "rents" "I", Cond.methodLink RX1 32 yX1_tableEels, Cond.instanceMethod yX1_tableEels, Cond.selects RX1 yX1_tableEels yX1_tableEels, Cond.code yX1_tableEels cX1_tableEels 2 (some .int), Cond.methodLink RX1 36 yX1_inOrder, Cond.instanceMethod yX1_inOrder, Cond.selects RX1 yX1_inOrder yX1_inOrder]
def wsX3_eelsWithStakes_r2 : List Cond := [Cond.code yX1_inOrder cX1_inOrder 2 (some .int), Cond.methodLink RX1 43 yX1_weirAt, Cond.instanceMethod yX1_weirAt, Cond.selects RX1 yX1_weirAt yX1_weirAt, Cond.code yX1_weirAt cX1_weirAt 3 (some (.object "StakeWeirs$Weir")), Cond.fieldLink RX1 20 "StakeWeirs$Estuary" "weirs" "[LStakeWeirs$Weir;", Cond.methodLink RX1 47 yX1_copyWeir, Cond.static yX1_copyWeir, Cond.code yX1_copyWeir cX1_copyWeir 2 none, Cond.methodLink RX1 74 yX2_copyFrom, Cond.instanceMethod yX2_copyFrom, Cond.selects RX2 yX2_copyFrom yX2_copyFrom, Cond.initialized RX2, Cond.code yX2_copyFrom cX2_copyFrom 2 none, Cond.fieldLink RX2 9 "StakeWeirs$Weir" "place" "I", Cond.fieldLink RX2 15 "StakeWeirs$Weir" "stakes" "I", Cond.fieldLink RX2 18 "StakeWeirs$Weir" "wattle" "I", Cond.fieldLink RX2 21 "StakeWeirs$Weir" "rent" "I", Cond.fieldLink RX2 24 "StakeWeirs$Weir" "coins" "I", Cond.fieldLink RX2 27 "StakeWeirs$Weir" "eels" "I", Cond.fieldLink RX2 30 "StakeWeirs$Weir" "open" "Z", Cond.fieldLink RX2 34 "StakeWeirs$Weir" "owed" "I", Cond.methodLink RX1 54 yX1_bargeAt, Cond.instanceMethod yX1_bargeAt]
def wsX3_eelsWithStakes_r3 : List Cond := [Cond.selects RX1 yX1_bargeAt yX1_bargeAt, Cond.code yX1_bargeAt cX1_bargeAt 3 (some (.object "StakeWeirs$Barge")), Cond.fieldLink RX1 27 "StakeWeirs$Estuary" "barges" "[LStakeWeirs$Barge;", Cond.methodLink RX1 58 yX1_copyBarge, Cond.static yX1_copyBarge, Cond.code yX1_copyBarge cX1_copyBarge 2 none, Cond.methodLink RX1 78 yX0_copyFrom, Cond.instanceMethod yX0_copyFrom, Cond.selects RX0 yX0_copyFrom yX0_copyFrom, Cond.initialized RX0, Cond.code yX0_copyFrom cX0_copyFrom 2 none, Cond.fieldLink RX0 9 "StakeWeirs$Barge" "ticket" "I", Cond.fieldLink RX0 15 "StakeWeirs$Barge" "wide" "I", Cond.fieldLink RX0 18 "StakeWeirs$Barge" "place" "I", Cond.fieldLink RX0 21 "StakeWeirs$Barge" "broken" "I", Cond.methodLink RX3 43 yX1_weirAt, Cond.methodLink RX3 145 yX1_goThroughNights, Cond.instanceMethod yX1_goThroughNights, Cond.selects RX1 yX1_goThroughNights yX1_goThroughNights, Cond.code yX1_goThroughNights cX1_goThroughNights 3 none, Cond.methodLink RX1 148 yX1_catchEels, Cond.instanceMethod yX1_catchEels, Cond.selects RX1 yX1_catchEels yX1_catchEels, Cond.code yX1_catchEels cX1_catchEels 4 none]
def wsX3_eelsWithStakes_r4 : List Cond := [Cond.methodLink RX1 111 yX1_run, Cond.instanceMethod yX1_run, Cond.selects RX1 yX1_run yX1_run, Cond.code yX1_run cX1_run 3 (some .int), Cond.methodLink RX1 101 yJ9_floorMod_7cf53, Cond.static yJ9_floorMod_7cf53, Cond.initialized RJ9, Cond.code yJ9_floorMod_7cf53 cJ9_floorMod_7cf53 3 (some .int), Cond.methodLink RX1 107 yX1_moon, Cond.instanceMethod yX1_moon, Cond.selects RX1 yX1_moon yX1_moon, Cond.code yX1_moon cX1_moon 2 (some .int), Cond.methodLink RX1 163 yX2_isFishing, Cond.instanceMethod yX2_isFishing, Cond.selects RX2 yX2_isFishing yX2_isFishing, Cond.code yX2_isFishing cX2_isFishing 1 (some .boolean), Cond.methodLink RX1 166 yX2_catchOf, Cond.instanceMethod yX2_catchOf, Cond.selects RX2 yX2_catchOf yX2_catchOf, Cond.code yX2_catchOf cX2_catchOf 3 (some .int), Cond.methodLink RX2 41 Lib.Math.min.name, Cond.static Lib.Math.min.name, Cond.initialized "java/lang/Math", Cond.code Lib.Math.min.name Lib.Math.min.code 2 (some .int)]
def wsX3_eelsWithStakes_r5 : List Cond := [Cond.methodLink RX1 151 yX1_moveBarges, Cond.instanceMethod yX1_moveBarges, Cond.selects RX1 yX1_moveBarges yX1_moveBarges, Cond.code yX1_moveBarges cX1_moveBarges 4 none, Cond.fieldLink RX1 93 "StakeWeirs$Weir" "place" "I", Cond.methodLink RX1 127 yX1_nextInWay, Cond.instanceMethod yX1_nextInWay, Cond.selects RX1 yX1_nextInWay yX1_nextInWay, Cond.code yX1_nextInWay cX1_nextInWay 6 (some .int), Cond.fieldLink RX1 123 "StakeWeirs$Barge" "place" "I", Cond.fieldLink RX1 120 "StakeWeirs$Barge" "wide" "I", Cond.methodLink RX1 141 yX2_isInWay, Cond.instanceMethod yX2_isInWay, Cond.selects RX2 yX2_isInWay yX2_isInWay, Cond.code yX2_isInWay cX2_isInWay 2 (some .boolean), Cond.methodLink RX2 37 yX2_isFishing, Cond.methodLink RX1 169 yX0_goOn, Cond.instanceMethod yX0_goOn, Cond.selects RX0 yX0_goOn yX0_goOn, Cond.code yX0_goOn cX0_goOn 2 none, Cond.methodLink RX0 24 Lib.Math.min.name, Cond.methodLink RX1 173 yX1_breakThrough, Cond.instanceMethod yX1_breakThrough, Cond.selects RX1 yX1_breakThrough yX1_breakThrough]
def wsX3_eelsWithStakes_r6 : List Cond := [Cond.code yX1_breakThrough cX1_breakThrough 4 none, Cond.fieldLink RX1 124 "StakeWeirs$Barge" "broken" "I", Cond.methodLink RX1 176 yX2_breakFor, Cond.instanceMethod yX2_breakFor, Cond.selects RX2 yX2_breakFor yX2_breakFor, Cond.code yX2_breakFor cX2_breakFor 3 (some .int), Cond.methodLink RX2 47 yX2_loseWattle, Cond.instanceMethod yX2_loseWattle, Cond.selects RX2 yX2_loseWattle yX2_loseWattle, Cond.code yX2_loseWattle cX2_loseWattle 2 none, Cond.methodLink RX1 154 yX1_leaveOutArrived, Cond.instanceMethod yX1_leaveOutArrived, Cond.selects RX1 yX1_leaveOutArrived yX1_leaveOutArrived, Cond.code yX1_leaveOutArrived cX1_leaveOutArrived 4 none, Cond.methodLink RX1 157 yX1_rotWattle, Cond.instanceMethod yX1_rotWattle, Cond.selects RX1 yX1_rotWattle yX1_rotWattle, Cond.code yX1_rotWattle cX1_rotWattle 4 none, Cond.methodLink RX1 131 yX2_isHeld, Cond.instanceMethod yX2_isHeld, Cond.selects RX2 yX2_isHeld yX2_isHeld, Cond.code yX2_isHeld cX2_isHeld 1 (some .boolean), Cond.methodLink RX1 179 yX2_loseWattle, Cond.methodLink RX1 160 yX1_collectRents]
def wsX3_eelsWithStakes_r7 : List Cond := [Cond.instanceMethod yX1_collectRents, Cond.selects RX1 yX1_collectRents yX1_collectRents, Cond.code yX1_collectRents cX1_collectRents 3 none, Cond.methodLink RX1 182 yX2_payRent, Cond.instanceMethod yX2_payRent, Cond.selects RX2 yX2_payRent yX2_payRent, Cond.code yX2_payRent cX2_payRent 1 (some .int)]
def wsX3_eelsWithStakes : List Cond := .code yX3_eelsWithStakes cX3_eelsWithStakes 5 (some .int) :: ((wsX3_eelsWithStakes_r1 ++ (wsX3_eelsWithStakes_r2 ++ (wsX3_eelsWithStakes_r3 ++ (wsX3_eelsWithStakes_r4 ++ (wsX3_eelsWithStakes_r5 ++ (wsX3_eelsWithStakes_r6 ++ wsX3_eelsWithStakes_r7)))))) ++ wsX30 ++ wsX20 ++ wsX10 ++ wsX00)
def wsX3_advise_r1 : List Cond := [Cond.classLink RX3 47 "java/lang/IndexOutOfBoundsException", Cond.initialized "java/lang/IndexOutOfBoundsException", Cond.classLink RX3 23 "java/lang/IllegalArgumentException", Cond.initialized "java/lang/IllegalArgumentException", Cond.fieldLink RX3 12 "StakeWeirs" "now" "LStakeWeirs$Estuary;", Cond.methodLink RX3 43 yX1_weirAt, Cond.instanceMethod yX1_weirAt, Cond.selects RX1 yX1_weirAt yX1_weirAt, Cond.initialized RX1, Cond.code yX1_weirAt cX1_weirAt 3 (some (.object "StakeWeirs$Weir")), Cond.fieldLink RX1 39 "StakeWeirs$Estuary" "weirCount" "I", Cond.fieldLink RX1 20 "StakeWeirs$Estuary" "weirs" "[LStakeWeirs$Weir;", Cond.methodLink RX3 19 yX3_isWithin, Cond.static yX3_isWithin, Cond.initialized RX3, Cond.code yX3_isWithin cX3_isWithin 3 (some .boolean), Cond.methodLink RX3 173 yX2_isFishing, Cond.instanceMethod yX2_isFishing, Cond.selects RX2 yX2_isFishing yX2_isFishing, Cond.initialized RX2, Cond.code yX2_isFishing cX2_isFishing 1 (some .boolean), Cond.fieldLink RX2 34 "StakeWeirs$Weir" "owed" "I", Cond.fieldLink RX2 30 "StakeWeirs$Weir" "open" "Z", Cond.methodLink RX3 176 yX3_eelsWithStakes]
def wsX3_advise_r2 : List Cond := [Cond.instanceMethod yX3_eelsWithStakes, Cond.selects RX3 yX3_eelsWithStakes yX3_eelsWithStakes, Cond.code yX3_eelsWithStakes cX3_eelsWithStakes 5 (some .int), Cond.fieldLink RX3 16 "StakeWeirs" "trial" "LStakeWeirs$Estuary;", Cond.fieldLink RX3 76 "StakeWeirs$Weir" "stakes" "I", Cond.fieldLink RX3 81 "StakeWeirs$Weir" "eels" "I", Cond.methodLink RX3 149 yX1_copyFrom, Cond.instanceMethod yX1_copyFrom, Cond.selects RX1 yX1_copyFrom yX1_copyFrom, Cond.code yX1_copyFrom cX1_copyFrom 3 none, Cond.fieldLink RX1 9 "StakeWeirs$Estuary" "table" "[I", Cond.fieldLink RX1 15 "StakeWeirs$Estuary" "order" "[I", Cond.fieldLink RX1 51 "StakeWeirs$Estuary" "bargeCount" "I", Cond.fieldLink RX1 62 "StakeWeirs$Estuary" "night" "I", Cond.fieldLink RX1 65 "StakeWeirs$Estuary" "arrived" "I", Cond.fieldLink RX1 68 "StakeWeirs$Estuary" "fines" "I", Cond.fieldLink RX1 71 "StakeWeirs$Estuary" "rents" "I", Cond.methodLink RX1 32 yX1_tableEels, Cond.instanceMethod yX1_tableEels, Cond.selects RX1 yX1_tableEels yX1_tableEels, Cond.code yX1_tableEels cX1_tableEels 2 (some .int), Cond.methodLink RX1 36 yX1_inOrder, Cond.instanceMethod yX1_inOrder, Cond.selects RX1 yX1_inOrder yX1_inOrder]
def wsX3_advise_r3 : List Cond := [Cond.code yX1_inOrder cX1_inOrder 2 (some .int), Cond.methodLink RX1 43 yX1_weirAt, Cond.methodLink RX1 47 yX1_copyWeir, Cond.static yX1_copyWeir, Cond.code yX1_copyWeir cX1_copyWeir 2 none, Cond.methodLink RX1 74 yX2_copyFrom, Cond.instanceMethod yX2_copyFrom, Cond.selects RX2 yX2_copyFrom yX2_copyFrom, Cond.code yX2_copyFrom cX2_copyFrom 2 none, Cond.fieldLink RX2 9 "StakeWeirs$Weir" "place" "I", Cond.fieldLink RX2 15 "StakeWeirs$Weir" "stakes" "I", Cond.fieldLink RX2 18 "StakeWeirs$Weir" "wattle" "I", Cond.fieldLink RX2 21 "StakeWeirs$Weir" "rent" "I", Cond.fieldLink RX2 24 "StakeWeirs$Weir" "coins" "I", Cond.fieldLink RX2 27 "StakeWeirs$Weir" "eels" "I", Cond.methodLink RX1 54 yX1_bargeAt, Cond.instanceMethod yX1_bargeAt, Cond.selects RX1 yX1_bargeAt yX1_bargeAt, Cond.code yX1_bargeAt cX1_bargeAt 3 (some (.object "StakeWeirs$Barge")), Cond.fieldLink RX1 27 "StakeWeirs$Estuary" "barges" "[LStakeWeirs$Barge;", Cond.methodLink RX1 58 yX1_copyBarge, Cond.static yX1_copyBarge, Cond.code yX1_copyBarge cX1_copyBarge 2 none, Cond.methodLink RX1 78 yX0_copyFrom]
def wsX3_advise_r4 : List Cond := [Cond.instanceMethod yX0_copyFrom, Cond.selects RX0 yX0_copyFrom yX0_copyFrom, Cond.initialized RX0, Cond.code yX0_copyFrom cX0_copyFrom 2 none, Cond.fieldLink RX0 9 "StakeWeirs$Barge" "ticket" "I", Cond.fieldLink RX0 15 "StakeWeirs$Barge" "wide" "I", Cond.fieldLink RX0 18 "StakeWeirs$Barge" "place" "I", Cond.fieldLink RX0 21 "StakeWeirs$Barge" "broken" "I", Cond.methodLink RX3 145 yX1_goThroughNights, Cond.instanceMethod yX1_goThroughNights, Cond.selects RX1 yX1_goThroughNights yX1_goThroughNights, Cond.code yX1_goThroughNights cX1_goThroughNights 3 none, Cond.methodLink RX1 148 yX1_catchEels, Cond.instanceMethod yX1_catchEels, Cond.selects RX1 yX1_catchEels yX1_catchEels, Cond.code yX1_catchEels cX1_catchEels 4 none, Cond.methodLink RX1 111 yX1_run, Cond.instanceMethod yX1_run, Cond.selects RX1 yX1_run yX1_run, Cond.code yX1_run cX1_run 3 (some .int), Cond.methodLink RX1 101 yJ9_floorMod_7cf53, Cond.static yJ9_floorMod_7cf53, Cond.initialized RJ9, Cond.code yJ9_floorMod_7cf53 cJ9_floorMod_7cf53 3 (some .int)]
def wsX3_advise_r5 : List Cond := [Cond.methodLink RX1 107 yX1_moon, Cond.instanceMethod yX1_moon, Cond.selects RX1 yX1_moon yX1_moon, Cond.code yX1_moon cX1_moon 2 (some .int), Cond.methodLink RX1 163 yX2_isFishing, Cond.methodLink RX1 166 yX2_catchOf, Cond.instanceMethod yX2_catchOf, Cond.selects RX2 yX2_catchOf yX2_catchOf, Cond.code yX2_catchOf cX2_catchOf 3 (some .int), Cond.methodLink RX2 41 Lib.Math.min.name, Cond.static Lib.Math.min.name, Cond.initialized "java/lang/Math", Cond.code Lib.Math.min.name Lib.Math.min.code 2 (some .int), Cond.methodLink RX1 151 yX1_moveBarges, Cond.instanceMethod yX1_moveBarges, Cond.selects RX1 yX1_moveBarges yX1_moveBarges, Cond.code yX1_moveBarges cX1_moveBarges 4 none, Cond.fieldLink RX1 93 "StakeWeirs$Weir" "place" "I", Cond.methodLink RX1 127 yX1_nextInWay, Cond.instanceMethod yX1_nextInWay, Cond.selects RX1 yX1_nextInWay yX1_nextInWay, Cond.code yX1_nextInWay cX1_nextInWay 6 (some .int), Cond.fieldLink RX1 123 "StakeWeirs$Barge" "place" "I", Cond.fieldLink RX1 120 "StakeWeirs$Barge" "wide" "I"]
def wsX3_advise_r6 : List Cond := [Cond.methodLink RX1 141 yX2_isInWay, Cond.instanceMethod yX2_isInWay, Cond.selects RX2 yX2_isInWay yX2_isInWay, Cond.code yX2_isInWay cX2_isInWay 2 (some .boolean), Cond.methodLink RX2 37 yX2_isFishing, Cond.methodLink RX1 169 yX0_goOn, Cond.instanceMethod yX0_goOn, Cond.selects RX0 yX0_goOn yX0_goOn, Cond.code yX0_goOn cX0_goOn 2 none, Cond.methodLink RX0 24 Lib.Math.min.name, Cond.methodLink RX1 173 yX1_breakThrough, Cond.instanceMethod yX1_breakThrough, Cond.selects RX1 yX1_breakThrough yX1_breakThrough, Cond.code yX1_breakThrough cX1_breakThrough 4 none, Cond.fieldLink RX1 124 "StakeWeirs$Barge" "broken" "I", Cond.methodLink RX1 176 yX2_breakFor, Cond.instanceMethod yX2_breakFor, Cond.selects RX2 yX2_breakFor yX2_breakFor, Cond.code yX2_breakFor cX2_breakFor 3 (some .int), Cond.methodLink RX2 47 yX2_loseWattle, Cond.instanceMethod yX2_loseWattle, Cond.selects RX2 yX2_loseWattle yX2_loseWattle, Cond.code yX2_loseWattle cX2_loseWattle 2 none, Cond.methodLink RX1 154 yX1_leaveOutArrived]
def wsX3_advise_r7 : List Cond := [Cond.instanceMethod yX1_leaveOutArrived, Cond.selects RX1 yX1_leaveOutArrived yX1_leaveOutArrived, Cond.code yX1_leaveOutArrived cX1_leaveOutArrived 4 none, Cond.methodLink RX1 157 yX1_rotWattle, Cond.instanceMethod yX1_rotWattle, Cond.selects RX1 yX1_rotWattle yX1_rotWattle, Cond.code yX1_rotWattle cX1_rotWattle 4 none, Cond.methodLink RX1 131 yX2_isHeld, Cond.instanceMethod yX2_isHeld, Cond.selects RX2 yX2_isHeld yX2_isHeld, Cond.code yX2_isHeld cX2_isHeld 1 (some .boolean), Cond.methodLink RX1 179 yX2_loseWattle, Cond.methodLink RX1 160 yX1_collectRents, Cond.instanceMethod yX1_collectRents, Cond.selects RX1 yX1_collectRents yX1_collectRents, Cond.code yX1_collectRents cX1_collectRents 3 none, Cond.methodLink RX1 182 yX2_payRent, Cond.instanceMethod yX2_payRent, Cond.selects RX2 yX2_payRent yX2_payRent, Cond.code yX2_payRent cX2_payRent 1 (some .int)]
def wsX3_advise : List Cond := .code yX3_advise cX3_advise 8 (some .int) :: ((wsX3_advise_r1 ++ (wsX3_advise_r2 ++ (wsX3_advise_r3 ++ (wsX3_advise_r4 ++ (wsX3_advise_r5 ++ (wsX3_advise_r6 ++ wsX3_advise_r7)))))) ++ wsX30 ++ wsX10 ++ wsX20 ++ wsX00 ++ (vx_atS RX3 51 "java/lang/IndexOutOfBoundsException" ["java/lang/RuntimeException", "java/lang/Exception"]).filter goodWord ++ (vx_atS RX3 27 "java/lang/IllegalArgumentException" ["java/lang/RuntimeException", "java/lang/Exception"]).filter goodWord)
def wsX3_mean : List Cond := .code yX3_mean cX3_mean 2 (some .double) :: ([.fieldLink RX3 12 "StakeWeirs" "now" "LStakeWeirs$Estuary;", .methodLink RX3 179 yX1_heldWeirs, .instanceMethod yX1_heldWeirs, .selects RX1 yX1_heldWeirs yX1_heldWeirs, .initialized RX1, .code yX1_heldWeirs cX1_heldWeirs 4 (some .int), .fieldLink RX1 39 "StakeWeirs$Estuary" "weirCount" "I", .methodLink RX1 43 yX1_weirAt, .instanceMethod yX1_weirAt, .selects RX1 yX1_weirAt yX1_weirAt, .code yX1_weirAt cX1_weirAt 3 (some (.object "StakeWeirs$Weir")), .fieldLink RX1 20 "StakeWeirs$Estuary" "weirs" "[LStakeWeirs$Weir;", .methodLink RX1 131 yX2_isHeld, .instanceMethod yX2_isHeld, .selects RX2 yX2_isHeld yX2_isHeld, .initialized RX2, .code yX2_isHeld cX2_isHeld 1 (some .boolean), .fieldLink RX2 34 "StakeWeirs$Weir" "owed" "I", .methodLink RX3 182 yX1_heldWattle, .instanceMethod yX1_heldWattle, .selects RX1 yX1_heldWattle yX1_heldWattle, .code yX1_heldWattle cX1_heldWattle 4 (some .int), .fieldLink RX1 135 "StakeWeirs$Weir" "wattle" "I"] ++ wsX30 ++ wsX10 ++ wsX20)
def wsX3_digestOfWeirs : List Cond := .code yX3_digestOfWeirs cX3_digestOfWeirs 8 (some .long) :: ([.fieldLink RX3 12 "StakeWeirs" "now" "LStakeWeirs$Estuary;", .fieldLink RX3 30 "StakeWeirs$Estuary" "weirCount" "I", .constantLong RX3 187 (31), .methodLink RX3 43 yX1_weirAt, .instanceMethod yX1_weirAt, .selects RX1 yX1_weirAt yX1_weirAt, .initialized RX1, .code yX1_weirAt cX1_weirAt 3 (some (.object "StakeWeirs$Weir")), .fieldLink RX1 39 "StakeWeirs$Estuary" "weirCount" "I", .fieldLink RX1 20 "StakeWeirs$Estuary" "weirs" "[LStakeWeirs$Weir;", .methodLink RX3 118 yX2_fact, .instanceMethod yX2_fact, .selects RX2 yX2_fact yX2_fact, .initialized RX2, .code yX2_fact cX2_fact 2 (some .int), .fieldLink RX2 9 "StakeWeirs$Weir" "place" "I", .fieldLink RX2 15 "StakeWeirs$Weir" "stakes" "I", .fieldLink RX2 18 "StakeWeirs$Weir" "wattle" "I", .fieldLink RX2 21 "StakeWeirs$Weir" "rent" "I", .fieldLink RX2 24 "StakeWeirs$Weir" "coins" "I", .fieldLink RX2 27 "StakeWeirs$Weir" "eels" "I", .fieldLink RX2 30 "StakeWeirs$Weir" "open" "Z", .fieldLink RX2 34 "StakeWeirs$Weir" "owed" "I"] ++ wsX30 ++ wsX10 ++ wsX20)
def wsX3_digestOfBarges_r1 : List Cond := [Cond.fieldLink RX3 12 "StakeWeirs" "now" "LStakeWeirs$Estuary;", Cond.fieldLink RX3 108 "StakeWeirs$Estuary" "bargeCount" "I", Cond.constantLong RX3 187 (31), Cond.methodLink RX3 121 yX1_bargeAt, Cond.instanceMethod yX1_bargeAt, Cond.selects RX1 yX1_bargeAt yX1_bargeAt, Cond.initialized RX1, Cond.code yX1_bargeAt cX1_bargeAt 3 (some (.object "StakeWeirs$Barge")), Cond.fieldLink RX1 51 "StakeWeirs$Estuary" "bargeCount" "I", Cond.fieldLink RX1 27 "StakeWeirs$Estuary" "barges" "[LStakeWeirs$Barge;", Cond.methodLink RX3 127 yX1_bargeFact, Cond.instanceMethod yX1_bargeFact, Cond.selects RX1 yX1_bargeFact yX1_bargeFact, Cond.code yX1_bargeFact cX1_bargeFact 3 (some .int), Cond.fieldLink RX1 120 "StakeWeirs$Barge" "wide" "I", Cond.fieldLink RX1 123 "StakeWeirs$Barge" "place" "I", Cond.fieldLink RX1 124 "StakeWeirs$Barge" "broken" "I", Cond.methodLink RX1 127 yX1_nextInWay, Cond.instanceMethod yX1_nextInWay, Cond.selects RX1 yX1_nextInWay yX1_nextInWay, Cond.code yX1_nextInWay cX1_nextInWay 6 (some .int), Cond.fieldLink RX1 39 "StakeWeirs$Estuary" "weirCount" "I", Cond.fieldLink RX1 93 "StakeWeirs$Weir" "place" "I", Cond.methodLink RX1 43 yX1_weirAt]
def wsX3_digestOfBarges_r2 : List Cond := [Cond.instanceMethod yX1_weirAt, Cond.selects RX1 yX1_weirAt yX1_weirAt, Cond.code yX1_weirAt cX1_weirAt 3 (some (.object "StakeWeirs$Weir")), Cond.fieldLink RX1 20 "StakeWeirs$Estuary" "weirs" "[LStakeWeirs$Weir;", Cond.methodLink RX1 141 yX2_isInWay, Cond.instanceMethod yX2_isInWay, Cond.selects RX2 yX2_isInWay yX2_isInWay, Cond.initialized RX2, Cond.code yX2_isInWay cX2_isInWay 2 (some .boolean), Cond.fieldLink RX2 15 "StakeWeirs$Weir" "stakes" "I", Cond.methodLink RX2 37 yX2_isFishing, Cond.instanceMethod yX2_isFishing, Cond.selects RX2 yX2_isFishing yX2_isFishing, Cond.code yX2_isFishing cX2_isFishing 1 (some .boolean), Cond.fieldLink RX2 34 "StakeWeirs$Weir" "owed" "I", Cond.fieldLink RX2 30 "StakeWeirs$Weir" "open" "Z"]
def wsX3_digestOfBarges : List Cond := .code yX3_digestOfBarges cX3_digestOfBarges 8 (some .long) :: ((wsX3_digestOfBarges_r1 ++ wsX3_digestOfBarges_r2) ++ wsX30 ++ wsX10 ++ wsX00 ++ wsX20)
def wsX3_digest_r1 : List Cond := [Cond.constantLong RX3 185 (1409), Cond.constantLong RX3 187 (31), Cond.fieldLink RX3 12 "StakeWeirs" "now" "LStakeWeirs$Estuary;", Cond.methodLink RX3 133 yX1_fact, Cond.instanceMethod yX1_fact, Cond.selects RX1 yX1_fact yX1_fact, Cond.initialized RX1, Cond.code yX1_fact cX1_fact 2 (some .int), Cond.fieldLink RX1 62 "StakeWeirs$Estuary" "night" "I", Cond.fieldLink RX1 39 "StakeWeirs$Estuary" "weirCount" "I", Cond.fieldLink RX1 51 "StakeWeirs$Estuary" "bargeCount" "I", Cond.fieldLink RX1 65 "StakeWeirs$Estuary" "arrived" "I", Cond.fieldLink RX1 68 "StakeWeirs$Estuary" "fines" "I", Cond.fieldLink RX1 71 "StakeWeirs$Estuary" "rents" "I", Cond.methodLink RX1 107 yX1_moon, Cond.instanceMethod yX1_moon, Cond.selects RX1 yX1_moon yX1_moon, Cond.code yX1_moon cX1_moon 2 (some .int), Cond.methodLink RX1 101 yJ9_floorMod_7cf53, Cond.static yJ9_floorMod_7cf53, Cond.initialized RJ9, Cond.code yJ9_floorMod_7cf53 cJ9_floorMod_7cf53 3 (some .int), Cond.methodLink RX1 111 yX1_run, Cond.instanceMethod yX1_run]
def wsX3_digest_r2 : List Cond := [Cond.selects RX1 yX1_run yX1_run, Cond.code yX1_run cX1_run 3 (some .int), Cond.methodLink RX1 32 yX1_tableEels, Cond.instanceMethod yX1_tableEels, Cond.selects RX1 yX1_tableEels yX1_tableEels, Cond.code yX1_tableEels cX1_tableEels 2 (some .int), Cond.fieldLink RX1 9 "StakeWeirs$Estuary" "table" "[I", Cond.methodLink RX1 114 yX1_heldWeirs, Cond.instanceMethod yX1_heldWeirs, Cond.selects RX1 yX1_heldWeirs yX1_heldWeirs, Cond.code yX1_heldWeirs cX1_heldWeirs 4 (some .int), Cond.methodLink RX1 43 yX1_weirAt, Cond.instanceMethod yX1_weirAt, Cond.selects RX1 yX1_weirAt yX1_weirAt, Cond.code yX1_weirAt cX1_weirAt 3 (some (.object "StakeWeirs$Weir")), Cond.fieldLink RX1 20 "StakeWeirs$Estuary" "weirs" "[LStakeWeirs$Weir;", Cond.methodLink RX1 131 yX2_isHeld, Cond.instanceMethod yX2_isHeld, Cond.selects RX2 yX2_isHeld yX2_isHeld, Cond.initialized RX2, Cond.code yX2_isHeld cX2_isHeld 1 (some .boolean), Cond.fieldLink RX2 34 "StakeWeirs$Weir" "owed" "I", Cond.methodLink RX1 117 yX1_allEels, Cond.instanceMethod yX1_allEels]
def wsX3_digest_r3 : List Cond := [Cond.selects RX1 yX1_allEels yX1_allEels, Cond.code yX1_allEels cX1_allEels 4 (some .int), Cond.fieldLink RX1 138 "StakeWeirs$Weir" "eels" "I", Cond.methodLink RX3 98 yX1_tableEels, Cond.methodLink RX3 189 yX3_digestOfWeirs, Cond.instanceMethod yX3_digestOfWeirs, Cond.selects RX3 yX3_digestOfWeirs yX3_digestOfWeirs, Cond.initialized RX3, Cond.code yX3_digestOfWeirs cX3_digestOfWeirs 8 (some .long), Cond.fieldLink RX3 30 "StakeWeirs$Estuary" "weirCount" "I", Cond.methodLink RX3 43 yX1_weirAt, Cond.methodLink RX3 118 yX2_fact, Cond.instanceMethod yX2_fact, Cond.selects RX2 yX2_fact yX2_fact, Cond.code yX2_fact cX2_fact 2 (some .int), Cond.fieldLink RX2 9 "StakeWeirs$Weir" "place" "I", Cond.fieldLink RX2 15 "StakeWeirs$Weir" "stakes" "I", Cond.fieldLink RX2 18 "StakeWeirs$Weir" "wattle" "I", Cond.fieldLink RX2 21 "StakeWeirs$Weir" "rent" "I", Cond.fieldLink RX2 24 "StakeWeirs$Weir" "coins" "I", Cond.fieldLink RX2 27 "StakeWeirs$Weir" "eels" "I", Cond.fieldLink RX2 30 "StakeWeirs$Weir" "open" "Z", Cond.methodLink RX3 193 yX3_digestOfBarges, Cond.instanceMethod yX3_digestOfBarges]
def wsX3_digest_r4 : List Cond := [Cond.selects RX3 yX3_digestOfBarges yX3_digestOfBarges, Cond.code yX3_digestOfBarges cX3_digestOfBarges 8 (some .long), Cond.fieldLink RX3 108 "StakeWeirs$Estuary" "bargeCount" "I", Cond.methodLink RX3 121 yX1_bargeAt, Cond.instanceMethod yX1_bargeAt, Cond.selects RX1 yX1_bargeAt yX1_bargeAt, Cond.code yX1_bargeAt cX1_bargeAt 3 (some (.object "StakeWeirs$Barge")), Cond.fieldLink RX1 27 "StakeWeirs$Estuary" "barges" "[LStakeWeirs$Barge;", Cond.methodLink RX3 127 yX1_bargeFact, Cond.instanceMethod yX1_bargeFact, Cond.selects RX1 yX1_bargeFact yX1_bargeFact, Cond.code yX1_bargeFact cX1_bargeFact 3 (some .int), Cond.fieldLink RX1 120 "StakeWeirs$Barge" "wide" "I", Cond.fieldLink RX1 123 "StakeWeirs$Barge" "place" "I", Cond.fieldLink RX1 124 "StakeWeirs$Barge" "broken" "I", Cond.methodLink RX1 127 yX1_nextInWay, Cond.instanceMethod yX1_nextInWay, Cond.selects RX1 yX1_nextInWay yX1_nextInWay, Cond.code yX1_nextInWay cX1_nextInWay 6 (some .int), Cond.fieldLink RX1 93 "StakeWeirs$Weir" "place" "I", Cond.methodLink RX1 141 yX2_isInWay, Cond.instanceMethod yX2_isInWay, Cond.selects RX2 yX2_isInWay yX2_isInWay, Cond.code yX2_isInWay cX2_isInWay 2 (some .boolean)]
def wsX3_digest_r5 : List Cond := [Cond.methodLink RX2 37 yX2_isFishing, Cond.instanceMethod yX2_isFishing, Cond.selects RX2 yX2_isFishing yX2_isFishing, Cond.code yX2_isFishing cX2_isFishing 1 (some .boolean)]
def wsX3_digest : List Cond := .code yX3_digest cX3_digest 4 (some .long) :: ((wsX3_digest_r1 ++ (wsX3_digest_r2 ++ (wsX3_digest_r3 ++ (wsX3_digest_r4 ++ wsX3_digest_r5)))) ++ wsX30 ++ wsX10 ++ wsX20 ++ wsX00)
def wsX4_init : List Cond := .code yX4_init cX4_init 2 none :: ([.fieldLink RX4 3 "StakeWeirsModel$State" "this$0" "LStakeWeirsModel;", .methodLink RX4 9 objectInit, .instanceMethod objectInit, .code objectInit ⟨#[0xb1]⟩ 1 none, .arrayClass .int, .fieldLink RX4 15 "StakeWeirsModel$State" "stakes" "[I", .fieldLink RX4 19 "StakeWeirsModel$State" "wattle" "[I", .fieldLink RX4 22 "StakeWeirsModel$State" "coins" "[I", .fieldLink RX4 25 "StakeWeirsModel$State" "eels" "[I", .fieldLink RX4 28 "StakeWeirsModel$State" "open" "[I", .fieldLink RX4 31 "StakeWeirsModel$State" "owes" "[I", .fieldLink RX4 34 "StakeWeirsModel$State" "wide" "[I", .fieldLink RX4 37 "StakeWeirsModel$State" "at" "[I", .fieldLink RX4 40 "StakeWeirsModel$State" "broken" "[I", .fieldLink RX4 43 "StakeWeirsModel$State" "was" "[I"] ++ wsX40)
def wsX4_copy : List Cond := .code yX4_copy cX4_copy 3 none :: ([.methodLink RX4 46 arraycopyName, .native arraycopyName, .static arraycopyName, .initialized "java/lang/System"])
def wsX4_become : List Cond := .code yX4_become cX4_become 3 (some (.object "StakeWeirsModel$State")) :: ([.fieldLink RX4 52 "StakeWeirsModel$State" "night" "I", .fieldLink RX4 56 "StakeWeirsModel$State" "barges" "I", .fieldLink RX4 59 "StakeWeirsModel$State" "arrived" "I", .fieldLink RX4 62 "StakeWeirsModel$State" "fines" "I", .fieldLink RX4 65 "StakeWeirsModel$State" "rents" "I", .fieldLink RX4 15 "StakeWeirsModel$State" "stakes" "[I", .fieldLink RX4 19 "StakeWeirsModel$State" "wattle" "[I", .fieldLink RX4 22 "StakeWeirsModel$State" "coins" "[I", .fieldLink RX4 25 "StakeWeirsModel$State" "eels" "[I", .fieldLink RX4 28 "StakeWeirsModel$State" "open" "[I", .fieldLink RX4 31 "StakeWeirsModel$State" "owes" "[I", .fieldLink RX4 34 "StakeWeirsModel$State" "wide" "[I", .fieldLink RX4 37 "StakeWeirsModel$State" "at" "[I", .fieldLink RX4 40 "StakeWeirsModel$State" "broken" "[I", .fieldLink RX4 43 "StakeWeirsModel$State" "was" "[I", .methodLink RX4 68 yX4_copy, .instanceMethod yX4_copy, .selects RX4 yX4_copy yX4_copy, .initialized RX4, .code yX4_copy cX4_copy 3 none, .methodLink RX4 46 arraycopyName, .native arraycopyName, .static arraycopyName, .initialized "java/lang/System"] ++ wsX40)
def wsX4_isHeld : List Cond := .code yX4_isHeld cX4_isHeld 2 (some .boolean) :: ([.fieldLink RX4 31 "StakeWeirsModel$State" "owes" "[I"] ++ wsX40)
def wsX4_moon : List Cond := .code yX4_moon cX4_moon 2 (some .int) :: ([.fieldLink RX4 52 "StakeWeirsModel$State" "night" "I"] ++ wsX40)
def wsX4_run : List Cond := .code yX4_run cX4_run 1 (some .int) :: ([.fieldLink RX4 3 "StakeWeirsModel$State" "this$0" "LStakeWeirsModel;", .fieldLink RX4 52 "StakeWeirsModel$State" "night" "I", .methodLink RX4 75 yX4_moon, .instanceMethod yX4_moon, .selects RX4 yX4_moon yX4_moon, .initialized RX4, .code yX4_moon cX4_moon 2 (some .int)] ++ wsX40 ++ wsX50)
def wsX4_isInWay : List Cond := .code yX4_isInWay cX4_isInWay 3 (some .boolean) :: ([.fieldLink RX4 28 "StakeWeirsModel$State" "open" "[I", .fieldLink RX4 15 "StakeWeirsModel$State" "stakes" "[I", .methodLink RX4 79 yX4_isHeld, .instanceMethod yX4_isHeld, .selects RX4 yX4_isHeld yX4_isHeld, .initialized RX4, .code yX4_isHeld cX4_isHeld 2 (some .boolean), .fieldLink RX4 31 "StakeWeirsModel$State" "owes" "[I"] ++ wsX40)
def wsX4_runDown : List Cond := .code yX4_runDown cX4_runDown 7 (some .int) :: ([.fieldLink RX4 3 "StakeWeirsModel$State" "this$0" "LStakeWeirsModel;", .fieldLink RX4 28 "StakeWeirsModel$State" "open" "[I", .fieldLink RX4 15 "StakeWeirsModel$State" "stakes" "[I", .fieldLink RX4 19 "StakeWeirsModel$State" "wattle" "[I", .fieldLink RX4 25 "StakeWeirsModel$State" "eels" "[I", .methodLink RX4 92 Lib.Math.min.name, .static Lib.Math.min.name, .initialized "java/lang/Math", .code Lib.Math.min.name Lib.Math.min.code 2 (some .int), .methodLink RX4 83 yX4_run, .instanceMethod yX4_run, .selects RX4 yX4_run yX4_run, .initialized RX4, .code yX4_run cX4_run 1 (some .int), .fieldLink RX4 52 "StakeWeirsModel$State" "night" "I", .methodLink RX4 75 yX4_moon, .instanceMethod yX4_moon, .selects RX4 yX4_moon yX4_moon, .code yX4_moon cX4_moon 2 (some .int), .methodLink RX4 79 yX4_isHeld, .instanceMethod yX4_isHeld, .selects RX4 yX4_isHeld yX4_isHeld, .code yX4_isHeld cX4_isHeld 2 (some .boolean), .fieldLink RX4 31 "StakeWeirsModel$State" "owes" "[I"] ++ wsX40 ++ wsX50)
def wsX4_breaks_r1 : List Cond := [Cond.fieldLink RX4 3 "StakeWeirsModel$State" "this$0" "LStakeWeirsModel;", Cond.fieldLink RX4 37 "StakeWeirsModel$State" "at" "[I", Cond.fieldLink RX4 34 "StakeWeirsModel$State" "wide" "[I", Cond.fieldLink RX4 15 "StakeWeirsModel$State" "stakes" "[I", Cond.fieldLink RX4 19 "StakeWeirsModel$State" "wattle" "[I", Cond.methodLink RX4 102 Lib.Math.max.name, Cond.static Lib.Math.max.name, Cond.initialized "java/lang/Math", Cond.code Lib.Math.max.name Lib.Math.max.code 2 (some .int), Cond.fieldLink RX4 22 "StakeWeirsModel$State" "coins" "[I", Cond.methodLink RX4 92 Lib.Math.min.name, Cond.static Lib.Math.min.name, Cond.code Lib.Math.min.name Lib.Math.min.code 2 (some .int), Cond.fieldLink RX4 62 "StakeWeirsModel$State" "fines" "I", Cond.fieldLink RX4 40 "StakeWeirsModel$State" "broken" "[I", Cond.methodLink RX4 98 yX4_isInWay, Cond.instanceMethod yX4_isInWay, Cond.selects RX4 yX4_isInWay yX4_isInWay, Cond.initialized RX4, Cond.code yX4_isInWay cX4_isInWay 3 (some .boolean), Cond.fieldLink RX4 28 "StakeWeirsModel$State" "open" "[I", Cond.methodLink RX4 79 yX4_isHeld, Cond.instanceMethod yX4_isHeld, Cond.selects RX4 yX4_isHeld yX4_isHeld]
def wsX4_breaks_r2 : List Cond := [Cond.code yX4_isHeld cX4_isHeld 2 (some .boolean), Cond.fieldLink RX4 31 "StakeWeirsModel$State" "owes" "[I"]
def wsX4_breaks : List Cond := .code yX4_breaks cX4_breaks 5 (some .boolean) :: ((wsX4_breaks_r1 ++ wsX4_breaks_r2) ++ wsX40 ++ wsX50)
def wsX4_goUp_r1 : List Cond := [Cond.fieldLink RX4 37 "StakeWeirsModel$State" "at" "[I", Cond.methodLink RX4 105 yX4_breaks, Cond.instanceMethod yX4_breaks, Cond.selects RX4 yX4_breaks yX4_breaks, Cond.initialized RX4, Cond.code yX4_breaks cX4_breaks 5 (some .boolean), Cond.fieldLink RX4 3 "StakeWeirsModel$State" "this$0" "LStakeWeirsModel;", Cond.fieldLink RX4 34 "StakeWeirsModel$State" "wide" "[I", Cond.fieldLink RX4 15 "StakeWeirsModel$State" "stakes" "[I", Cond.fieldLink RX4 19 "StakeWeirsModel$State" "wattle" "[I", Cond.methodLink RX4 102 Lib.Math.max.name, Cond.static Lib.Math.max.name, Cond.initialized "java/lang/Math", Cond.code Lib.Math.max.name Lib.Math.max.code 2 (some .int), Cond.fieldLink RX4 22 "StakeWeirsModel$State" "coins" "[I", Cond.methodLink RX4 92 Lib.Math.min.name, Cond.static Lib.Math.min.name, Cond.code Lib.Math.min.name Lib.Math.min.code 2 (some .int), Cond.fieldLink RX4 62 "StakeWeirsModel$State" "fines" "I", Cond.fieldLink RX4 40 "StakeWeirsModel$State" "broken" "[I", Cond.methodLink RX4 98 yX4_isInWay, Cond.instanceMethod yX4_isInWay, Cond.selects RX4 yX4_isInWay yX4_isInWay, Cond.code yX4_isInWay cX4_isInWay 3 (some .boolean)]
def wsX4_goUp_r2 : List Cond := [Cond.fieldLink RX4 28 "StakeWeirsModel$State" "open" "[I", Cond.methodLink RX4 79 yX4_isHeld, Cond.instanceMethod yX4_isHeld, Cond.selects RX4 yX4_isHeld yX4_isHeld, Cond.code yX4_isHeld cX4_isHeld 2 (some .boolean), Cond.fieldLink RX4 31 "StakeWeirsModel$State" "owes" "[I"]
def wsX4_goUp : List Cond := .code yX4_goUp cX4_goUp 3 none :: ((wsX4_goUp_r1 ++ wsX4_goUp_r2) ++ wsX40 ++ wsX50)
def wsX4_leave : List Cond := .code yX4_leave cX4_leave 3 none :: ([.fieldLink RX4 56 "StakeWeirsModel$State" "barges" "I", .fieldLink RX4 37 "StakeWeirsModel$State" "at" "[I", .fieldLink RX4 59 "StakeWeirsModel$State" "arrived" "I", .fieldLink RX4 34 "StakeWeirsModel$State" "wide" "[I", .fieldLink RX4 40 "StakeWeirsModel$State" "broken" "[I", .fieldLink RX4 43 "StakeWeirsModel$State" "was" "[I"] ++ wsX40)
def wsX4_payRent : List Cond := .code yX4_payRent cX4_payRent 2 none :: ([.fieldLink RX4 22 "StakeWeirsModel$State" "coins" "[I", .fieldLink RX4 3 "StakeWeirsModel$State" "this$0" "LStakeWeirsModel;", .fieldLink RX4 65 "StakeWeirsModel$State" "rents" "I", .fieldLink RX4 31 "StakeWeirsModel$State" "owes" "[I", .fieldLink RX4 25 "StakeWeirsModel$State" "eels" "[I"] ++ wsX40 ++ wsX50)
def wsX4_pass_r1 : List Cond := [Cond.fieldLink RX4 56 "StakeWeirsModel$State" "barges" "I", Cond.fieldLink RX4 3 "StakeWeirsModel$State" "this$0" "LStakeWeirsModel;", Cond.fieldLink RX4 19 "StakeWeirsModel$State" "wattle" "[I", Cond.methodLink RX4 102 Lib.Math.max.name, Cond.static Lib.Math.max.name, Cond.initialized "java/lang/Math", Cond.code Lib.Math.max.name Lib.Math.max.code 2 (some .int), Cond.fieldLink RX4 52 "StakeWeirsModel$State" "night" "I", Cond.methodLink RX4 111 yX4_runDown, Cond.instanceMethod yX4_runDown, Cond.selects RX4 yX4_runDown yX4_runDown, Cond.initialized RX4, Cond.code yX4_runDown cX4_runDown 7 (some .int), Cond.fieldLink RX4 28 "StakeWeirsModel$State" "open" "[I", Cond.fieldLink RX4 15 "StakeWeirsModel$State" "stakes" "[I", Cond.fieldLink RX4 25 "StakeWeirsModel$State" "eels" "[I", Cond.methodLink RX4 92 Lib.Math.min.name, Cond.static Lib.Math.min.name, Cond.code Lib.Math.min.name Lib.Math.min.code 2 (some .int), Cond.methodLink RX4 83 yX4_run, Cond.instanceMethod yX4_run, Cond.selects RX4 yX4_run yX4_run, Cond.code yX4_run cX4_run 1 (some .int), Cond.methodLink RX4 75 yX4_moon]
def wsX4_pass_r2 : List Cond := [Cond.instanceMethod yX4_moon, Cond.selects RX4 yX4_moon yX4_moon, Cond.code yX4_moon cX4_moon 2 (some .int), Cond.methodLink RX4 79 yX4_isHeld, Cond.instanceMethod yX4_isHeld, Cond.selects RX4 yX4_isHeld yX4_isHeld, Cond.code yX4_isHeld cX4_isHeld 2 (some .boolean), Cond.fieldLink RX4 31 "StakeWeirsModel$State" "owes" "[I", Cond.methodLink RX4 115 yX4_goUp, Cond.instanceMethod yX4_goUp, Cond.selects RX4 yX4_goUp yX4_goUp, Cond.code yX4_goUp cX4_goUp 3 none, Cond.fieldLink RX4 37 "StakeWeirsModel$State" "at" "[I", Cond.methodLink RX4 105 yX4_breaks, Cond.instanceMethod yX4_breaks, Cond.selects RX4 yX4_breaks yX4_breaks, Cond.code yX4_breaks cX4_breaks 5 (some .boolean), Cond.fieldLink RX4 34 "StakeWeirsModel$State" "wide" "[I", Cond.fieldLink RX4 22 "StakeWeirsModel$State" "coins" "[I", Cond.fieldLink RX4 62 "StakeWeirsModel$State" "fines" "I", Cond.fieldLink RX4 40 "StakeWeirsModel$State" "broken" "[I", Cond.methodLink RX4 98 yX4_isInWay, Cond.instanceMethod yX4_isInWay, Cond.selects RX4 yX4_isInWay yX4_isInWay]
def wsX4_pass_r3 : List Cond := [Cond.code yX4_isInWay cX4_isInWay 3 (some .boolean), Cond.methodLink RX4 119 yX4_leave, Cond.instanceMethod yX4_leave, Cond.selects RX4 yX4_leave yX4_leave, Cond.code yX4_leave cX4_leave 3 none, Cond.fieldLink RX4 59 "StakeWeirsModel$State" "arrived" "I", Cond.fieldLink RX4 43 "StakeWeirsModel$State" "was" "[I", Cond.methodLink RX4 122 yX4_payRent, Cond.instanceMethod yX4_payRent, Cond.selects RX4 yX4_payRent yX4_payRent, Cond.code yX4_payRent cX4_payRent 2 none, Cond.fieldLink RX4 65 "StakeWeirsModel$State" "rents" "I"]
def wsX4_pass : List Cond := .code yX4_pass cX4_pass 2 none :: ((wsX4_pass_r1 ++ (wsX4_pass_r2 ++ wsX4_pass_r3)) ++ wsX40 ++ wsX50)
def wsX4_pass__r1 : List Cond := [Cond.methodLink RX4 125 yX4_pass, Cond.instanceMethod yX4_pass, Cond.selects RX4 yX4_pass yX4_pass, Cond.initialized RX4, Cond.code yX4_pass cX4_pass 2 none, Cond.fieldLink RX4 56 "StakeWeirsModel$State" "barges" "I", Cond.fieldLink RX4 3 "StakeWeirsModel$State" "this$0" "LStakeWeirsModel;", Cond.fieldLink RX4 19 "StakeWeirsModel$State" "wattle" "[I", Cond.methodLink RX4 102 Lib.Math.max.name, Cond.static Lib.Math.max.name, Cond.initialized "java/lang/Math", Cond.code Lib.Math.max.name Lib.Math.max.code 2 (some .int), Cond.fieldLink RX4 52 "StakeWeirsModel$State" "night" "I", Cond.methodLink RX4 111 yX4_runDown, Cond.instanceMethod yX4_runDown, Cond.selects RX4 yX4_runDown yX4_runDown, Cond.code yX4_runDown cX4_runDown 7 (some .int), Cond.fieldLink RX4 28 "StakeWeirsModel$State" "open" "[I", Cond.fieldLink RX4 15 "StakeWeirsModel$State" "stakes" "[I", Cond.fieldLink RX4 25 "StakeWeirsModel$State" "eels" "[I", Cond.methodLink RX4 92 Lib.Math.min.name, Cond.static Lib.Math.min.name, Cond.code Lib.Math.min.name Lib.Math.min.code 2 (some .int), Cond.methodLink RX4 83 yX4_run]
def wsX4_pass__r2 : List Cond := [Cond.instanceMethod yX4_run, Cond.selects RX4 yX4_run yX4_run, Cond.code yX4_run cX4_run 1 (some .int), Cond.methodLink RX4 75 yX4_moon, Cond.instanceMethod yX4_moon, Cond.selects RX4 yX4_moon yX4_moon, Cond.code yX4_moon cX4_moon 2 (some .int), Cond.methodLink RX4 79 yX4_isHeld, Cond.instanceMethod yX4_isHeld, Cond.selects RX4 yX4_isHeld yX4_isHeld, Cond.code yX4_isHeld cX4_isHeld 2 (some .boolean), Cond.fieldLink RX4 31 "StakeWeirsModel$State" "owes" "[I", Cond.methodLink RX4 115 yX4_goUp, Cond.instanceMethod yX4_goUp, Cond.selects RX4 yX4_goUp yX4_goUp, Cond.code yX4_goUp cX4_goUp 3 none, Cond.fieldLink RX4 37 "StakeWeirsModel$State" "at" "[I", Cond.methodLink RX4 105 yX4_breaks, Cond.instanceMethod yX4_breaks, Cond.selects RX4 yX4_breaks yX4_breaks, Cond.code yX4_breaks cX4_breaks 5 (some .boolean), Cond.fieldLink RX4 34 "StakeWeirsModel$State" "wide" "[I", Cond.fieldLink RX4 22 "StakeWeirsModel$State" "coins" "[I", Cond.fieldLink RX4 62 "StakeWeirsModel$State" "fines" "I"]
def wsX4_pass__r3 : List Cond := [Cond.fieldLink RX4 40 "StakeWeirsModel$State" "broken" "[I", Cond.methodLink RX4 98 yX4_isInWay, Cond.instanceMethod yX4_isInWay, Cond.selects RX4 yX4_isInWay yX4_isInWay, Cond.code yX4_isInWay cX4_isInWay 3 (some .boolean), Cond.methodLink RX4 119 yX4_leave, Cond.instanceMethod yX4_leave, Cond.selects RX4 yX4_leave yX4_leave, Cond.code yX4_leave cX4_leave 3 none, Cond.fieldLink RX4 59 "StakeWeirsModel$State" "arrived" "I", Cond.fieldLink RX4 43 "StakeWeirsModel$State" "was" "[I", Cond.methodLink RX4 122 yX4_payRent, Cond.instanceMethod yX4_payRent, Cond.selects RX4 yX4_payRent yX4_payRent, Cond.code yX4_payRent cX4_payRent 2 none, Cond.fieldLink RX4 65 "StakeWeirsModel$State" "rents" "I"]
def wsX4_pass_ : List Cond := .code yX4_pass_ cX4_pass_ 3 none :: ((wsX4_pass__r1 ++ (wsX4_pass__r2 ++ wsX4_pass__r3)) ++ wsX40 ++ wsX50)
def wsX4_held : List Cond := .code yX4_held cX4_held 3 (some .int) :: ([.fieldLink RX4 3 "StakeWeirsModel$State" "this$0" "LStakeWeirsModel;", .methodLink RX4 79 yX4_isHeld, .instanceMethod yX4_isHeld, .selects RX4 yX4_isHeld yX4_isHeld, .initialized RX4, .code yX4_isHeld cX4_isHeld 2 (some .boolean), .fieldLink RX4 31 "StakeWeirsModel$State" "owes" "[I"] ++ wsX40 ++ wsX50)
def wsX4_allEels : List Cond := .code yX4_allEels cX4_allEels 3 (some .int) :: ([.fieldLink RX4 3 "StakeWeirsModel$State" "this$0" "LStakeWeirsModel;", .fieldLink RX4 25 "StakeWeirsModel$State" "eels" "[I"] ++ wsX40 ++ wsX50)
def wsX4_counted_r1 : List Cond := [Cond.arrayClass .int, Cond.fieldLink RX4 52 "StakeWeirsModel$State" "night" "I", Cond.fieldLink RX4 3 "StakeWeirsModel$State" "this$0" "LStakeWeirsModel;", Cond.fieldLink RX4 56 "StakeWeirsModel$State" "barges" "I", Cond.fieldLink RX4 59 "StakeWeirsModel$State" "arrived" "I", Cond.fieldLink RX4 62 "StakeWeirsModel$State" "fines" "I", Cond.fieldLink RX4 65 "StakeWeirsModel$State" "rents" "I", Cond.methodLink RX4 75 yX4_moon, Cond.instanceMethod yX4_moon, Cond.selects RX4 yX4_moon yX4_moon, Cond.initialized RX4, Cond.code yX4_moon cX4_moon 2 (some .int), Cond.methodLink RX4 83 yX4_run, Cond.instanceMethod yX4_run, Cond.selects RX4 yX4_run yX4_run, Cond.code yX4_run cX4_run 1 (some .int), Cond.methodLink RX4 128 yX4_held, Cond.instanceMethod yX4_held, Cond.selects RX4 yX4_held yX4_held, Cond.code yX4_held cX4_held 3 (some .int), Cond.methodLink RX4 79 yX4_isHeld, Cond.instanceMethod yX4_isHeld, Cond.selects RX4 yX4_isHeld yX4_isHeld, Cond.code yX4_isHeld cX4_isHeld 2 (some .boolean)]
def wsX4_counted_r2 : List Cond := [Cond.fieldLink RX4 31 "StakeWeirsModel$State" "owes" "[I", Cond.methodLink RX4 131 yX4_allEels, Cond.instanceMethod yX4_allEels, Cond.selects RX4 yX4_allEels yX4_allEels, Cond.code yX4_allEels cX4_allEels 3 (some .int), Cond.fieldLink RX4 25 "StakeWeirsModel$State" "eels" "[I"]
def wsX4_counted : List Cond := .code yX4_counted cX4_counted 3 (some .int) :: ((wsX4_counted_r1 ++ wsX4_counted_r2) ++ wsX40 ++ wsX50)
def wsX5_init_r1 : List Cond := [Cond.methodLink RX5 1 objectInit, Cond.instanceMethod objectInit, Cond.code objectInit ⟨#[0xb1]⟩ 1 none, Cond.arrayClass .int, Cond.fieldLink RX5 7 "StakeWeirsModel" "table" "[I", Cond.fieldLink RX5 13 "StakeWeirsModel" "place" "[I", Cond.fieldLink RX5 16 "StakeWeirsModel" "rent" "[I", Cond.classLink RX5 19 RX4, Cond.instantiable RX4 16, Cond.initialized RX4, Cond.fieldLink RX5 24 "StakeWeirsModel" "s" "LStakeWeirsModel$State;", Cond.fieldLink RX5 28 "StakeWeirsModel" "ahead" "LStakeWeirsModel$State;", Cond.instanceMethod yX4_init, Cond.code yX4_init cX4_init 2 none, Cond.fieldLink RX4 3 "StakeWeirsModel$State" "this$0" "LStakeWeirsModel;", Cond.methodLink RX4 9 objectInit, Cond.fieldLink RX4 15 "StakeWeirsModel$State" "stakes" "[I", Cond.fieldLink RX4 19 "StakeWeirsModel$State" "wattle" "[I", Cond.fieldLink RX4 22 "StakeWeirsModel$State" "coins" "[I", Cond.fieldLink RX4 25 "StakeWeirsModel$State" "eels" "[I", Cond.fieldLink RX4 28 "StakeWeirsModel$State" "open" "[I", Cond.fieldLink RX4 31 "StakeWeirsModel$State" "owes" "[I", Cond.fieldLink RX4 34 "StakeWeirsModel$State" "wide" "[I", Cond.fieldLink RX4 37 "StakeWeirsModel$State" "at" "[I"]
def wsX5_init_r2 : List Cond := [Cond.fieldLink RX4 40 "StakeWeirsModel$State" "broken" "[I", Cond.fieldLink RX4 43 "StakeWeirsModel$State" "was" "[I"]
def wsX5_init : List Cond := .code yX5_init cX5_init 1 none :: ((wsX5_init_r1 ++ wsX5_init_r2) ++ wsX50 ++ wsX40)
def wsX5_thrown : List Cond := .code yX5_thrown cX5_thrown 1 (some .int) :: ([.fieldLink RX5 31 "StakeWeirsModel" "thrown" "I"] ++ wsX50)
def wsX5_no : List Cond := .code yX5_no cX5_no 2 (some .int) :: ([.fieldLink RX5 31 "StakeWeirsModel" "thrown" "I"] ++ wsX50)
def wsX5_isIn : List Cond := .code yX5_isIn cX5_isIn 3 (some .boolean) :: ([])
def wsX5_isWeir : List Cond := .code yX5_isWeir cX5_isWeir 2 (some .boolean) :: ([.fieldLink RX5 35 "StakeWeirsModel" "weirs" "I", .methodLink RX5 38 yX5_isIn, .static yX5_isIn, .initialized RX5, .code yX5_isIn cX5_isIn 3 (some .boolean)] ++ wsX50)
def wsX5_isBarge : List Cond := .code yX5_isBarge cX5_isBarge 2 (some .boolean) :: ([.fieldLink RX5 24 "StakeWeirsModel" "s" "LStakeWeirsModel$State;", .methodLink RX5 38 yX5_isIn, .static yX5_isIn, .initialized RX5, .code yX5_isIn cX5_isIn 3 (some .boolean)] ++ wsX50 ++ wsX40)
def wsX5_weir : List Cond := .code yX5_weir cX5_weir 4 (some .int) :: ([.fieldLink RX5 31 "StakeWeirsModel" "thrown" "I", .fieldLink RX5 35 "StakeWeirsModel" "weirs" "I", .fieldLink RX5 13 "StakeWeirsModel" "place" "[I", .fieldLink RX5 16 "StakeWeirsModel" "rent" "[I", .fieldLink RX5 24 "StakeWeirsModel" "s" "LStakeWeirsModel$State;", .methodLink RX5 38 yX5_isIn, .static yX5_isIn, .initialized RX5, .code yX5_isIn cX5_isIn 3 (some .boolean), .methodLink RX5 45 yX5_no, .instanceMethod yX5_no, .selects RX5 yX5_no yX5_no, .code yX5_no cX5_no 2 (some .int)] ++ wsX50 ++ wsX40)
def wsX5_gate : List Cond := .code yX5_gate cX5_gate 2 (some .boolean) :: ([.fieldLink RX5 24 "StakeWeirsModel" "s" "LStakeWeirsModel$State;", .fieldLink RX5 31 "StakeWeirsModel" "thrown" "I", .methodLink RX5 58 yX5_isWeir, .instanceMethod yX5_isWeir, .selects RX5 yX5_isWeir yX5_isWeir, .initialized RX5, .code yX5_isWeir cX5_isWeir 2 (some .boolean), .fieldLink RX5 35 "StakeWeirsModel" "weirs" "I", .methodLink RX5 38 yX5_isIn, .static yX5_isIn, .code yX5_isIn cX5_isIn 3 (some .boolean), .methodLink RX5 62 yX4_isHeld, .instanceMethod yX4_isHeld, .selects RX4 yX4_isHeld yX4_isHeld, .initialized RX4, .code yX4_isHeld cX4_isHeld 2 (some .boolean), .fieldLink RX4 31 "StakeWeirsModel$State" "owes" "[I"] ++ wsX50 ++ wsX40)
def wsX5_mend : List Cond := .code yX5_mend cX5_mend 4 (some .int) :: ([.fieldLink RX5 31 "StakeWeirsModel" "thrown" "I", .fieldLink RX5 24 "StakeWeirsModel" "s" "LStakeWeirsModel$State;", .methodLink RX5 58 yX5_isWeir, .instanceMethod yX5_isWeir, .selects RX5 yX5_isWeir yX5_isWeir, .initialized RX5, .code yX5_isWeir cX5_isWeir 2 (some .boolean), .fieldLink RX5 35 "StakeWeirsModel" "weirs" "I", .methodLink RX5 38 yX5_isIn, .static yX5_isIn, .code yX5_isIn cX5_isIn 3 (some .boolean), .methodLink RX5 45 yX5_no, .instanceMethod yX5_no, .selects RX5 yX5_no yX5_no, .code yX5_no cX5_no 2 (some .int), .methodLink RX5 62 yX4_isHeld, .instanceMethod yX4_isHeld, .selects RX4 yX4_isHeld yX4_isHeld, .initialized RX4, .code yX4_isHeld cX4_isHeld 2 (some .boolean), .fieldLink RX4 31 "StakeWeirsModel$State" "owes" "[I"] ++ wsX50 ++ wsX40)
def wsX5_drive : List Cond := .code yX5_drive cX5_drive 3 (some .int) :: ([.fieldLink RX5 31 "StakeWeirsModel" "thrown" "I", .fieldLink RX5 24 "StakeWeirsModel" "s" "LStakeWeirsModel$State;", .methodLink RX5 58 yX5_isWeir, .instanceMethod yX5_isWeir, .selects RX5 yX5_isWeir yX5_isWeir, .initialized RX5, .code yX5_isWeir cX5_isWeir 2 (some .boolean), .fieldLink RX5 35 "StakeWeirsModel" "weirs" "I", .methodLink RX5 38 yX5_isIn, .static yX5_isIn, .code yX5_isIn cX5_isIn 3 (some .boolean), .methodLink RX5 45 yX5_no, .instanceMethod yX5_no, .selects RX5 yX5_no yX5_no, .code yX5_no cX5_no 2 (some .int), .methodLink RX5 62 yX4_isHeld, .instanceMethod yX4_isHeld, .selects RX4 yX4_isHeld yX4_isHeld, .initialized RX4, .code yX4_isHeld cX4_isHeld 2 (some .boolean), .fieldLink RX4 31 "StakeWeirsModel$State" "owes" "[I"] ++ wsX50 ++ wsX40)
def wsX5_sell_r1 : List Cond := [Cond.fieldLink RX5 31 "StakeWeirsModel" "thrown" "I", Cond.fieldLink RX5 24 "StakeWeirsModel" "s" "LStakeWeirsModel$State;", Cond.methodLink RX5 58 yX5_isWeir, Cond.instanceMethod yX5_isWeir, Cond.selects RX5 yX5_isWeir yX5_isWeir, Cond.initialized RX5, Cond.code yX5_isWeir cX5_isWeir 2 (some .boolean), Cond.fieldLink RX5 35 "StakeWeirsModel" "weirs" "I", Cond.methodLink RX5 38 yX5_isIn, Cond.static yX5_isIn, Cond.code yX5_isIn cX5_isIn 3 (some .boolean), Cond.methodLink RX5 45 yX5_no, Cond.instanceMethod yX5_no, Cond.selects RX5 yX5_no yX5_no, Cond.code yX5_no cX5_no 2 (some .int), Cond.methodLink RX5 62 yX4_isHeld, Cond.instanceMethod yX4_isHeld, Cond.selects RX4 yX4_isHeld yX4_isHeld, Cond.initialized RX4, Cond.code yX4_isHeld cX4_isHeld 2 (some .boolean), Cond.fieldLink RX4 31 "StakeWeirsModel$State" "owes" "[I", Cond.methodLink RX5 71 yX4_moon, Cond.instanceMethod yX4_moon, Cond.selects RX4 yX4_moon yX4_moon]
def wsX5_sell_r2 : List Cond := [Cond.code yX4_moon cX4_moon 2 (some .int), Cond.fieldLink RX4 52 "StakeWeirsModel$State" "night" "I"]
def wsX5_sell : List Cond := .code yX5_sell cX5_sell 4 (some .int) :: ((wsX5_sell_r1 ++ wsX5_sell_r2) ++ wsX50 ++ wsX40)
def wsX5_setRun : List Cond := .code yX5_setRun cX5_setRun 4 (some .int) :: ([.fieldLink RX5 31 "StakeWeirsModel" "thrown" "I", .fieldLink RX5 7 "StakeWeirsModel" "table" "[I", .methodLink RX5 38 yX5_isIn, .static yX5_isIn, .initialized RX5, .code yX5_isIn cX5_isIn 3 (some .boolean), .methodLink RX5 45 yX5_no, .instanceMethod yX5_no, .selects RX5 yX5_no yX5_no, .code yX5_no cX5_no 2 (some .int)] ++ wsX50)
def wsX5_barge : List Cond := .code yX5_barge cX5_barge 2 (some .int) :: ([.fieldLink RX5 31 "StakeWeirsModel" "thrown" "I", .fieldLink RX5 24 "StakeWeirsModel" "s" "LStakeWeirsModel$State;", .methodLink RX5 38 yX5_isIn, .static yX5_isIn, .initialized RX5, .code yX5_isIn cX5_isIn 3 (some .boolean), .methodLink RX5 45 yX5_no, .instanceMethod yX5_no, .selects RX5 yX5_no yX5_no, .code yX5_no cX5_no 2 (some .int)] ++ wsX50 ++ wsX40)
def wsX5_weirTold : List Cond := .code yX5_weirTold cX5_weirTold 4 (some .int) :: ([.arrayClass .int, .fieldLink RX5 13 "StakeWeirsModel" "place" "[I", .fieldLink RX5 24 "StakeWeirsModel" "s" "LStakeWeirsModel$State;", .fieldLink RX5 16 "StakeWeirsModel" "rent" "[I"] ++ wsX50 ++ wsX40)
def wsX5_about : List Cond := .code yX5_about cX5_about 3 (some .int) :: ([.fieldLink RX5 31 "StakeWeirsModel" "thrown" "I", .methodLink RX5 58 yX5_isWeir, .instanceMethod yX5_isWeir, .selects RX5 yX5_isWeir yX5_isWeir, .initialized RX5, .code yX5_isWeir cX5_isWeir 2 (some .boolean), .fieldLink RX5 35 "StakeWeirsModel" "weirs" "I", .methodLink RX5 38 yX5_isIn, .static yX5_isIn, .code yX5_isIn cX5_isIn 3 (some .boolean), .methodLink RX5 87 yX5_weirTold, .instanceMethod yX5_weirTold, .selects RX5 yX5_weirTold yX5_weirTold, .code yX5_weirTold cX5_weirTold 4 (some .int), .arrayClass .int, .fieldLink RX5 13 "StakeWeirsModel" "place" "[I", .fieldLink RX5 24 "StakeWeirsModel" "s" "LStakeWeirsModel$State;", .fieldLink RX5 16 "StakeWeirsModel" "rent" "[I", .methodLink RX5 45 yX5_no, .instanceMethod yX5_no, .selects RX5 yX5_no yX5_no, .code yX5_no cX5_no 2 (some .int)] ++ wsX50 ++ wsX40)
def wsX5_nextFor : List Cond := .code yX5_nextFor cX5_nextFor 4 (some .int) :: ([.fieldLink RX5 24 "StakeWeirsModel" "s" "LStakeWeirsModel$State;", .fieldLink RX5 35 "StakeWeirsModel" "weirs" "I", .fieldLink RX5 13 "StakeWeirsModel" "place" "[I", .methodLink RX5 91 yX4_isInWay, .instanceMethod yX4_isInWay, .selects RX4 yX4_isInWay yX4_isInWay, .initialized RX4, .code yX4_isInWay cX4_isInWay 3 (some .boolean), .fieldLink RX4 28 "StakeWeirsModel$State" "open" "[I", .fieldLink RX4 15 "StakeWeirsModel$State" "stakes" "[I", .methodLink RX4 79 yX4_isHeld, .instanceMethod yX4_isHeld, .selects RX4 yX4_isHeld yX4_isHeld, .code yX4_isHeld cX4_isHeld 2 (some .boolean), .fieldLink RX4 31 "StakeWeirsModel$State" "owes" "[I"] ++ wsX50 ++ wsX40)
def wsX5_bargeTold : List Cond := .code yX5_bargeTold cX5_bargeTold 3 (some .int) :: ([.fieldLink RX5 24 "StakeWeirsModel" "s" "LStakeWeirsModel$State;", .methodLink RX5 95 yX5_nextFor, .instanceMethod yX5_nextFor, .selects RX5 yX5_nextFor yX5_nextFor, .initialized RX5, .code yX5_nextFor cX5_nextFor 4 (some .int), .fieldLink RX5 35 "StakeWeirsModel" "weirs" "I", .fieldLink RX5 13 "StakeWeirsModel" "place" "[I", .methodLink RX5 91 yX4_isInWay, .instanceMethod yX4_isInWay, .selects RX4 yX4_isInWay yX4_isInWay, .initialized RX4, .code yX4_isInWay cX4_isInWay 3 (some .boolean), .fieldLink RX4 28 "StakeWeirsModel$State" "open" "[I", .fieldLink RX4 15 "StakeWeirsModel$State" "stakes" "[I", .methodLink RX4 79 yX4_isHeld, .instanceMethod yX4_isHeld, .selects RX4 yX4_isHeld yX4_isHeld, .code yX4_isHeld cX4_isHeld 2 (some .boolean), .fieldLink RX4 31 "StakeWeirsModel$State" "owes" "[I"] ++ wsX50 ++ wsX40)
def wsX5_told_r1 : List Cond := [Cond.fieldLink RX5 31 "StakeWeirsModel" "thrown" "I", Cond.methodLink RX5 98 yX5_isBarge, Cond.instanceMethod yX5_isBarge, Cond.selects RX5 yX5_isBarge yX5_isBarge, Cond.initialized RX5, Cond.code yX5_isBarge cX5_isBarge 2 (some .boolean), Cond.fieldLink RX5 24 "StakeWeirsModel" "s" "LStakeWeirsModel$State;", Cond.methodLink RX5 38 yX5_isIn, Cond.static yX5_isIn, Cond.code yX5_isIn cX5_isIn 3 (some .boolean), Cond.methodLink RX5 101 yX5_bargeTold, Cond.instanceMethod yX5_bargeTold, Cond.selects RX5 yX5_bargeTold yX5_bargeTold, Cond.code yX5_bargeTold cX5_bargeTold 3 (some .int), Cond.methodLink RX5 95 yX5_nextFor, Cond.instanceMethod yX5_nextFor, Cond.selects RX5 yX5_nextFor yX5_nextFor, Cond.code yX5_nextFor cX5_nextFor 4 (some .int), Cond.fieldLink RX5 35 "StakeWeirsModel" "weirs" "I", Cond.fieldLink RX5 13 "StakeWeirsModel" "place" "[I", Cond.methodLink RX5 91 yX4_isInWay, Cond.instanceMethod yX4_isInWay, Cond.selects RX4 yX4_isInWay yX4_isInWay, Cond.initialized RX4]
def wsX5_told_r2 : List Cond := [Cond.code yX4_isInWay cX4_isInWay 3 (some .boolean), Cond.fieldLink RX4 28 "StakeWeirsModel$State" "open" "[I", Cond.fieldLink RX4 15 "StakeWeirsModel$State" "stakes" "[I", Cond.methodLink RX4 79 yX4_isHeld, Cond.instanceMethod yX4_isHeld, Cond.selects RX4 yX4_isHeld yX4_isHeld, Cond.code yX4_isHeld cX4_isHeld 2 (some .boolean), Cond.fieldLink RX4 31 "StakeWeirsModel$State" "owes" "[I", Cond.methodLink RX5 45 yX5_no, Cond.instanceMethod yX5_no, Cond.selects RX5 yX5_no yX5_no, Cond.code yX5_no cX5_no 2 (some .int)]
def wsX5_told : List Cond := .code yX5_told cX5_told 3 (some .int) :: ((wsX5_told_r1 ++ wsX5_told_r2) ++ wsX50 ++ wsX40)
def wsX5_count_r1 : List Cond := [Cond.fieldLink RX5 31 "StakeWeirsModel" "thrown" "I", Cond.fieldLink RX5 24 "StakeWeirsModel" "s" "LStakeWeirsModel$State;", Cond.methodLink RX5 38 yX5_isIn, Cond.static yX5_isIn, Cond.initialized RX5, Cond.code yX5_isIn cX5_isIn 3 (some .boolean), Cond.methodLink RX5 104 yX4_counted, Cond.instanceMethod yX4_counted, Cond.selects RX4 yX4_counted yX4_counted, Cond.initialized RX4, Cond.code yX4_counted cX4_counted 3 (some .int), Cond.arrayClass .int, Cond.fieldLink RX4 52 "StakeWeirsModel$State" "night" "I", Cond.fieldLink RX4 3 "StakeWeirsModel$State" "this$0" "LStakeWeirsModel;", Cond.fieldLink RX4 56 "StakeWeirsModel$State" "barges" "I", Cond.fieldLink RX4 59 "StakeWeirsModel$State" "arrived" "I", Cond.fieldLink RX4 62 "StakeWeirsModel$State" "fines" "I", Cond.fieldLink RX4 65 "StakeWeirsModel$State" "rents" "I", Cond.methodLink RX4 75 yX4_moon, Cond.instanceMethod yX4_moon, Cond.selects RX4 yX4_moon yX4_moon, Cond.code yX4_moon cX4_moon 2 (some .int), Cond.methodLink RX4 83 yX4_run, Cond.instanceMethod yX4_run]
def wsX5_count_r2 : List Cond := [Cond.selects RX4 yX4_run yX4_run, Cond.code yX4_run cX4_run 1 (some .int), Cond.methodLink RX4 128 yX4_held, Cond.instanceMethod yX4_held, Cond.selects RX4 yX4_held yX4_held, Cond.code yX4_held cX4_held 3 (some .int), Cond.methodLink RX4 79 yX4_isHeld, Cond.instanceMethod yX4_isHeld, Cond.selects RX4 yX4_isHeld yX4_isHeld, Cond.code yX4_isHeld cX4_isHeld 2 (some .boolean), Cond.fieldLink RX4 31 "StakeWeirsModel$State" "owes" "[I", Cond.methodLink RX4 131 yX4_allEels, Cond.instanceMethod yX4_allEels, Cond.selects RX4 yX4_allEels yX4_allEels, Cond.code yX4_allEels cX4_allEels 3 (some .int), Cond.fieldLink RX4 25 "StakeWeirsModel$State" "eels" "[I", Cond.methodLink RX5 45 yX5_no, Cond.instanceMethod yX5_no, Cond.selects RX5 yX5_no yX5_no, Cond.code yX5_no cX5_no 2 (some .int)]
def wsX5_count : List Cond := .code yX5_count cX5_count 2 (some .int) :: ((wsX5_count_r1 ++ wsX5_count_r2) ++ wsX50 ++ wsX40)
def wsX5_hinders : List Cond := .code yX5_hinders cX5_hinders 4 (some .int) :: ([.fieldLink RX5 31 "StakeWeirsModel" "thrown" "I", .fieldLink RX5 35 "StakeWeirsModel" "weirs" "I", .fieldLink RX5 24 "StakeWeirsModel" "s" "LStakeWeirsModel$State;", .methodLink RX5 38 yX5_isIn, .static yX5_isIn, .initialized RX5, .code yX5_isIn cX5_isIn 3 (some .boolean), .methodLink RX5 45 yX5_no, .instanceMethod yX5_no, .selects RX5 yX5_no yX5_no, .code yX5_no cX5_no 2 (some .int), .methodLink RX5 91 yX4_isInWay, .instanceMethod yX4_isInWay, .selects RX4 yX4_isInWay yX4_isInWay, .initialized RX4, .code yX4_isInWay cX4_isInWay 3 (some .boolean), .fieldLink RX4 28 "StakeWeirsModel$State" "open" "[I", .fieldLink RX4 15 "StakeWeirsModel$State" "stakes" "[I", .methodLink RX4 79 yX4_isHeld, .instanceMethod yX4_isHeld, .selects RX4 yX4_isHeld yX4_isHeld, .code yX4_isHeld cX4_isHeld 2 (some .boolean), .fieldLink RX4 31 "StakeWeirsModel$State" "owes" "[I"] ++ wsX50 ++ wsX40)
def wsX5_richest : List Cond := .code yX5_richest cX5_richest 3 (some .int) :: ([.fieldLink RX5 31 "StakeWeirsModel" "thrown" "I", .fieldLink RX5 35 "StakeWeirsModel" "weirs" "I", .fieldLink RX5 24 "StakeWeirsModel" "s" "LStakeWeirsModel$State;", .methodLink RX5 62 yX4_isHeld, .instanceMethod yX4_isHeld, .selects RX4 yX4_isHeld yX4_isHeld, .initialized RX4, .code yX4_isHeld cX4_isHeld 2 (some .boolean), .fieldLink RX4 31 "StakeWeirsModel$State" "owes" "[I"] ++ wsX50 ++ wsX40)
def wsX5_pass_r1 : List Cond := [Cond.fieldLink RX5 31 "StakeWeirsModel" "thrown" "I", Cond.fieldLink RX5 24 "StakeWeirsModel" "s" "LStakeWeirsModel$State;", Cond.methodLink RX5 38 yX5_isIn, Cond.static yX5_isIn, Cond.initialized RX5, Cond.code yX5_isIn cX5_isIn 3 (some .boolean), Cond.methodLink RX5 45 yX5_no, Cond.instanceMethod yX5_no, Cond.selects RX5 yX5_no yX5_no, Cond.code yX5_no cX5_no 2 (some .int), Cond.methodLink RX5 110 yX4_pass_, Cond.instanceMethod yX4_pass_, Cond.selects RX4 yX4_pass_ yX4_pass_, Cond.initialized RX4, Cond.code yX4_pass_ cX4_pass_ 3 none, Cond.methodLink RX4 125 yX4_pass, Cond.instanceMethod yX4_pass, Cond.selects RX4 yX4_pass yX4_pass, Cond.code yX4_pass cX4_pass 2 none, Cond.fieldLink RX4 56 "StakeWeirsModel$State" "barges" "I", Cond.fieldLink RX4 3 "StakeWeirsModel$State" "this$0" "LStakeWeirsModel;", Cond.fieldLink RX4 19 "StakeWeirsModel$State" "wattle" "[I", Cond.methodLink RX4 102 Lib.Math.max.name, Cond.static Lib.Math.max.name]
def wsX5_pass_r2 : List Cond := [Cond.initialized "java/lang/Math", Cond.code Lib.Math.max.name Lib.Math.max.code 2 (some .int), Cond.fieldLink RX4 52 "StakeWeirsModel$State" "night" "I", Cond.methodLink RX4 111 yX4_runDown, Cond.instanceMethod yX4_runDown, Cond.selects RX4 yX4_runDown yX4_runDown, Cond.code yX4_runDown cX4_runDown 7 (some .int), Cond.fieldLink RX4 28 "StakeWeirsModel$State" "open" "[I", Cond.fieldLink RX4 15 "StakeWeirsModel$State" "stakes" "[I", Cond.fieldLink RX4 25 "StakeWeirsModel$State" "eels" "[I", Cond.methodLink RX4 92 Lib.Math.min.name, Cond.static Lib.Math.min.name, Cond.code Lib.Math.min.name Lib.Math.min.code 2 (some .int), Cond.methodLink RX4 83 yX4_run, Cond.instanceMethod yX4_run, Cond.selects RX4 yX4_run yX4_run, Cond.code yX4_run cX4_run 1 (some .int), Cond.methodLink RX4 75 yX4_moon, Cond.instanceMethod yX4_moon, Cond.selects RX4 yX4_moon yX4_moon, Cond.code yX4_moon cX4_moon 2 (some .int), Cond.methodLink RX4 79 yX4_isHeld, Cond.instanceMethod yX4_isHeld, Cond.selects RX4 yX4_isHeld yX4_isHeld]
def wsX5_pass_r3 : List Cond := [Cond.code yX4_isHeld cX4_isHeld 2 (some .boolean), Cond.fieldLink RX4 31 "StakeWeirsModel$State" "owes" "[I", Cond.methodLink RX4 115 yX4_goUp, Cond.instanceMethod yX4_goUp, Cond.selects RX4 yX4_goUp yX4_goUp, Cond.code yX4_goUp cX4_goUp 3 none, Cond.fieldLink RX4 37 "StakeWeirsModel$State" "at" "[I", Cond.methodLink RX4 105 yX4_breaks, Cond.instanceMethod yX4_breaks, Cond.selects RX4 yX4_breaks yX4_breaks, Cond.code yX4_breaks cX4_breaks 5 (some .boolean), Cond.fieldLink RX4 34 "StakeWeirsModel$State" "wide" "[I", Cond.fieldLink RX4 22 "StakeWeirsModel$State" "coins" "[I", Cond.fieldLink RX4 62 "StakeWeirsModel$State" "fines" "I", Cond.fieldLink RX4 40 "StakeWeirsModel$State" "broken" "[I", Cond.methodLink RX4 98 yX4_isInWay, Cond.instanceMethod yX4_isInWay, Cond.selects RX4 yX4_isInWay yX4_isInWay, Cond.code yX4_isInWay cX4_isInWay 3 (some .boolean), Cond.methodLink RX4 119 yX4_leave, Cond.instanceMethod yX4_leave, Cond.selects RX4 yX4_leave yX4_leave, Cond.code yX4_leave cX4_leave 3 none, Cond.fieldLink RX4 59 "StakeWeirsModel$State" "arrived" "I"]
def wsX5_pass_r4 : List Cond := [Cond.fieldLink RX4 43 "StakeWeirsModel$State" "was" "[I", Cond.methodLink RX4 122 yX4_payRent, Cond.instanceMethod yX4_payRent, Cond.selects RX4 yX4_payRent yX4_payRent, Cond.code yX4_payRent cX4_payRent 2 none, Cond.fieldLink RX4 65 "StakeWeirsModel$State" "rents" "I"]
def wsX5_pass : List Cond := .code yX5_pass cX5_pass 3 (some .int) :: ((wsX5_pass_r1 ++ (wsX5_pass_r2 ++ (wsX5_pass_r3 ++ wsX5_pass_r4))) ++ wsX50 ++ wsX40)
def wsX5_catches_r1 : List Cond := [Cond.fieldLink RX5 31 "StakeWeirsModel" "thrown" "I", Cond.fieldLink RX5 28 "StakeWeirsModel" "ahead" "LStakeWeirsModel$State;", Cond.fieldLink RX5 24 "StakeWeirsModel" "s" "LStakeWeirsModel$State;", Cond.methodLink RX5 58 yX5_isWeir, Cond.instanceMethod yX5_isWeir, Cond.selects RX5 yX5_isWeir yX5_isWeir, Cond.initialized RX5, Cond.code yX5_isWeir cX5_isWeir 2 (some .boolean), Cond.fieldLink RX5 35 "StakeWeirsModel" "weirs" "I", Cond.methodLink RX5 38 yX5_isIn, Cond.static yX5_isIn, Cond.code yX5_isIn cX5_isIn 3 (some .boolean), Cond.methodLink RX5 114 yX4_become, Cond.instanceMethod yX4_become, Cond.selects RX4 yX4_become yX4_become, Cond.initialized RX4, Cond.code yX4_become cX4_become 3 (some (.object "StakeWeirsModel$State")), Cond.fieldLink RX4 52 "StakeWeirsModel$State" "night" "I", Cond.fieldLink RX4 56 "StakeWeirsModel$State" "barges" "I", Cond.fieldLink RX4 59 "StakeWeirsModel$State" "arrived" "I", Cond.fieldLink RX4 62 "StakeWeirsModel$State" "fines" "I", Cond.fieldLink RX4 65 "StakeWeirsModel$State" "rents" "I", Cond.fieldLink RX4 15 "StakeWeirsModel$State" "stakes" "[I", Cond.fieldLink RX4 19 "StakeWeirsModel$State" "wattle" "[I"]
def wsX5_catches_r2 : List Cond := [Cond.fieldLink RX4 22 "StakeWeirsModel$State" "coins" "[I", Cond.fieldLink RX4 25 "StakeWeirsModel$State" "eels" "[I", Cond.fieldLink RX4 28 "StakeWeirsModel$State" "open" "[I", Cond.fieldLink RX4 31 "StakeWeirsModel$State" "owes" "[I", Cond.fieldLink RX4 34 "StakeWeirsModel$State" "wide" "[I", Cond.fieldLink RX4 37 "StakeWeirsModel$State" "at" "[I", Cond.fieldLink RX4 40 "StakeWeirsModel$State" "broken" "[I", Cond.fieldLink RX4 43 "StakeWeirsModel$State" "was" "[I", Cond.methodLink RX4 68 yX4_copy, Cond.instanceMethod yX4_copy, Cond.selects RX4 yX4_copy yX4_copy, Cond.code yX4_copy cX4_copy 3 none, Cond.methodLink RX4 46 arraycopyName, Cond.native arraycopyName, Cond.static arraycopyName, Cond.initialized "java/lang/System", Cond.methodLink RX5 118 yX4_runDown, Cond.instanceMethod yX4_runDown, Cond.selects RX4 yX4_runDown yX4_runDown, Cond.code yX4_runDown cX4_runDown 7 (some .int), Cond.fieldLink RX4 3 "StakeWeirsModel$State" "this$0" "LStakeWeirsModel;", Cond.methodLink RX4 92 Lib.Math.min.name, Cond.static Lib.Math.min.name, Cond.initialized "java/lang/Math"]
def wsX5_catches_r3 : List Cond := [Cond.code Lib.Math.min.name Lib.Math.min.code 2 (some .int), Cond.methodLink RX4 83 yX4_run, Cond.instanceMethod yX4_run, Cond.selects RX4 yX4_run yX4_run, Cond.code yX4_run cX4_run 1 (some .int), Cond.methodLink RX4 75 yX4_moon, Cond.instanceMethod yX4_moon, Cond.selects RX4 yX4_moon yX4_moon, Cond.code yX4_moon cX4_moon 2 (some .int), Cond.methodLink RX4 79 yX4_isHeld, Cond.instanceMethod yX4_isHeld, Cond.selects RX4 yX4_isHeld yX4_isHeld, Cond.code yX4_isHeld cX4_isHeld 2 (some .boolean), Cond.methodLink RX5 45 yX5_no, Cond.instanceMethod yX5_no, Cond.selects RX5 yX5_no yX5_no, Cond.code yX5_no cX5_no 2 (some .int)]
def wsX5_catches : List Cond := .code yX5_catches cX5_catches 2 (some .int) :: ((wsX5_catches_r1 ++ (wsX5_catches_r2 ++ wsX5_catches_r3)) ++ wsX50 ++ wsX40)
def wsX5_isUnderWay : List Cond := .code yX5_isUnderWay cX5_isUnderWay 3 (some .boolean) :: ([.fieldLink RX5 28 "StakeWeirsModel" "ahead" "LStakeWeirsModel$State;"] ++ wsX50 ++ wsX40)
def wsX5_arrives_r1 : List Cond := [Cond.fieldLink RX5 31 "StakeWeirsModel" "thrown" "I", Cond.fieldLink RX5 28 "StakeWeirsModel" "ahead" "LStakeWeirsModel$State;", Cond.fieldLink RX5 24 "StakeWeirsModel" "s" "LStakeWeirsModel$State;", Cond.methodLink RX5 98 yX5_isBarge, Cond.instanceMethod yX5_isBarge, Cond.selects RX5 yX5_isBarge yX5_isBarge, Cond.initialized RX5, Cond.code yX5_isBarge cX5_isBarge 2 (some .boolean), Cond.methodLink RX5 38 yX5_isIn, Cond.static yX5_isIn, Cond.code yX5_isIn cX5_isIn 3 (some .boolean), Cond.methodLink RX5 45 yX5_no, Cond.instanceMethod yX5_no, Cond.selects RX5 yX5_no yX5_no, Cond.code yX5_no cX5_no 2 (some .int), Cond.methodLink RX5 114 yX4_become, Cond.instanceMethod yX4_become, Cond.selects RX4 yX4_become yX4_become, Cond.initialized RX4, Cond.code yX4_become cX4_become 3 (some (.object "StakeWeirsModel$State")), Cond.fieldLink RX4 52 "StakeWeirsModel$State" "night" "I", Cond.fieldLink RX4 56 "StakeWeirsModel$State" "barges" "I", Cond.fieldLink RX4 59 "StakeWeirsModel$State" "arrived" "I", Cond.fieldLink RX4 62 "StakeWeirsModel$State" "fines" "I"]
def wsX5_arrives_r2 : List Cond := [Cond.fieldLink RX4 65 "StakeWeirsModel$State" "rents" "I", Cond.fieldLink RX4 15 "StakeWeirsModel$State" "stakes" "[I", Cond.fieldLink RX4 19 "StakeWeirsModel$State" "wattle" "[I", Cond.fieldLink RX4 22 "StakeWeirsModel$State" "coins" "[I", Cond.fieldLink RX4 25 "StakeWeirsModel$State" "eels" "[I", Cond.fieldLink RX4 28 "StakeWeirsModel$State" "open" "[I", Cond.fieldLink RX4 31 "StakeWeirsModel$State" "owes" "[I", Cond.fieldLink RX4 34 "StakeWeirsModel$State" "wide" "[I", Cond.fieldLink RX4 37 "StakeWeirsModel$State" "at" "[I", Cond.fieldLink RX4 40 "StakeWeirsModel$State" "broken" "[I", Cond.fieldLink RX4 43 "StakeWeirsModel$State" "was" "[I", Cond.methodLink RX4 68 yX4_copy, Cond.instanceMethod yX4_copy, Cond.selects RX4 yX4_copy yX4_copy, Cond.code yX4_copy cX4_copy 3 none, Cond.methodLink RX4 46 arraycopyName, Cond.native arraycopyName, Cond.static arraycopyName, Cond.initialized "java/lang/System", Cond.methodLink RX5 124 yX5_isUnderWay, Cond.instanceMethod yX5_isUnderWay, Cond.selects RX5 yX5_isUnderWay yX5_isUnderWay, Cond.code yX5_isUnderWay cX5_isUnderWay 3 (some .boolean), Cond.methodLink RX5 127 yX4_pass]
def wsX5_arrives_r3 : List Cond := [Cond.instanceMethod yX4_pass, Cond.selects RX4 yX4_pass yX4_pass, Cond.code yX4_pass cX4_pass 2 none, Cond.fieldLink RX4 3 "StakeWeirsModel$State" "this$0" "LStakeWeirsModel;", Cond.methodLink RX4 102 Lib.Math.max.name, Cond.static Lib.Math.max.name, Cond.initialized "java/lang/Math", Cond.code Lib.Math.max.name Lib.Math.max.code 2 (some .int), Cond.methodLink RX4 111 yX4_runDown, Cond.instanceMethod yX4_runDown, Cond.selects RX4 yX4_runDown yX4_runDown, Cond.code yX4_runDown cX4_runDown 7 (some .int), Cond.methodLink RX4 92 Lib.Math.min.name, Cond.static Lib.Math.min.name, Cond.code Lib.Math.min.name Lib.Math.min.code 2 (some .int), Cond.methodLink RX4 83 yX4_run, Cond.instanceMethod yX4_run, Cond.selects RX4 yX4_run yX4_run, Cond.code yX4_run cX4_run 1 (some .int), Cond.methodLink RX4 75 yX4_moon, Cond.instanceMethod yX4_moon, Cond.selects RX4 yX4_moon yX4_moon, Cond.code yX4_moon cX4_moon 2 (some .int), Cond.methodLink RX4 79 yX4_isHeld]
def wsX5_arrives_r4 : List Cond := [Cond.instanceMethod yX4_isHeld, Cond.selects RX4 yX4_isHeld yX4_isHeld, Cond.code yX4_isHeld cX4_isHeld 2 (some .boolean), Cond.methodLink RX4 115 yX4_goUp, Cond.instanceMethod yX4_goUp, Cond.selects RX4 yX4_goUp yX4_goUp, Cond.code yX4_goUp cX4_goUp 3 none, Cond.methodLink RX4 105 yX4_breaks, Cond.instanceMethod yX4_breaks, Cond.selects RX4 yX4_breaks yX4_breaks, Cond.code yX4_breaks cX4_breaks 5 (some .boolean), Cond.methodLink RX4 98 yX4_isInWay, Cond.instanceMethod yX4_isInWay, Cond.selects RX4 yX4_isInWay yX4_isInWay, Cond.code yX4_isInWay cX4_isInWay 3 (some .boolean), Cond.methodLink RX4 119 yX4_leave, Cond.instanceMethod yX4_leave, Cond.selects RX4 yX4_leave yX4_leave, Cond.code yX4_leave cX4_leave 3 none, Cond.methodLink RX4 122 yX4_payRent, Cond.instanceMethod yX4_payRent, Cond.selects RX4 yX4_payRent yX4_payRent, Cond.code yX4_payRent cX4_payRent 2 none]
def wsX5_arrives : List Cond := .code yX5_arrives cX5_arrives 3 (some .int) :: ((wsX5_arrives_r1 ++ (wsX5_arrives_r2 ++ (wsX5_arrives_r3 ++ wsX5_arrives_r4))) ++ wsX50 ++ wsX40)
def wsX5_lasts_r1 : List Cond := [Cond.fieldLink RX5 31 "StakeWeirsModel" "thrown" "I", Cond.fieldLink RX5 28 "StakeWeirsModel" "ahead" "LStakeWeirsModel$State;", Cond.fieldLink RX5 24 "StakeWeirsModel" "s" "LStakeWeirsModel$State;", Cond.methodLink RX5 58 yX5_isWeir, Cond.instanceMethod yX5_isWeir, Cond.selects RX5 yX5_isWeir yX5_isWeir, Cond.initialized RX5, Cond.code yX5_isWeir cX5_isWeir 2 (some .boolean), Cond.fieldLink RX5 35 "StakeWeirsModel" "weirs" "I", Cond.methodLink RX5 38 yX5_isIn, Cond.static yX5_isIn, Cond.code yX5_isIn cX5_isIn 3 (some .boolean), Cond.methodLink RX5 45 yX5_no, Cond.instanceMethod yX5_no, Cond.selects RX5 yX5_no yX5_no, Cond.code yX5_no cX5_no 2 (some .int), Cond.methodLink RX5 114 yX4_become, Cond.instanceMethod yX4_become, Cond.selects RX4 yX4_become yX4_become, Cond.initialized RX4, Cond.code yX4_become cX4_become 3 (some (.object "StakeWeirsModel$State")), Cond.fieldLink RX4 52 "StakeWeirsModel$State" "night" "I", Cond.fieldLink RX4 56 "StakeWeirsModel$State" "barges" "I", Cond.fieldLink RX4 59 "StakeWeirsModel$State" "arrived" "I"]
def wsX5_lasts_r2 : List Cond := [Cond.fieldLink RX4 62 "StakeWeirsModel$State" "fines" "I", Cond.fieldLink RX4 65 "StakeWeirsModel$State" "rents" "I", Cond.fieldLink RX4 15 "StakeWeirsModel$State" "stakes" "[I", Cond.fieldLink RX4 19 "StakeWeirsModel$State" "wattle" "[I", Cond.fieldLink RX4 22 "StakeWeirsModel$State" "coins" "[I", Cond.fieldLink RX4 25 "StakeWeirsModel$State" "eels" "[I", Cond.fieldLink RX4 28 "StakeWeirsModel$State" "open" "[I", Cond.fieldLink RX4 31 "StakeWeirsModel$State" "owes" "[I", Cond.fieldLink RX4 34 "StakeWeirsModel$State" "wide" "[I", Cond.fieldLink RX4 37 "StakeWeirsModel$State" "at" "[I", Cond.fieldLink RX4 40 "StakeWeirsModel$State" "broken" "[I", Cond.fieldLink RX4 43 "StakeWeirsModel$State" "was" "[I", Cond.methodLink RX4 68 yX4_copy, Cond.instanceMethod yX4_copy, Cond.selects RX4 yX4_copy yX4_copy, Cond.code yX4_copy cX4_copy 3 none, Cond.methodLink RX4 46 arraycopyName, Cond.native arraycopyName, Cond.static arraycopyName, Cond.initialized "java/lang/System", Cond.methodLink RX5 62 yX4_isHeld, Cond.instanceMethod yX4_isHeld, Cond.selects RX4 yX4_isHeld yX4_isHeld, Cond.code yX4_isHeld cX4_isHeld 2 (some .boolean)]
def wsX5_lasts_r3 : List Cond := [Cond.methodLink RX5 127 yX4_pass, Cond.instanceMethod yX4_pass, Cond.selects RX4 yX4_pass yX4_pass, Cond.code yX4_pass cX4_pass 2 none, Cond.fieldLink RX4 3 "StakeWeirsModel$State" "this$0" "LStakeWeirsModel;", Cond.methodLink RX4 102 Lib.Math.max.name, Cond.static Lib.Math.max.name, Cond.initialized "java/lang/Math", Cond.code Lib.Math.max.name Lib.Math.max.code 2 (some .int), Cond.methodLink RX4 111 yX4_runDown, Cond.instanceMethod yX4_runDown, Cond.selects RX4 yX4_runDown yX4_runDown, Cond.code yX4_runDown cX4_runDown 7 (some .int), Cond.methodLink RX4 92 Lib.Math.min.name, Cond.static Lib.Math.min.name, Cond.code Lib.Math.min.name Lib.Math.min.code 2 (some .int), Cond.methodLink RX4 83 yX4_run, Cond.instanceMethod yX4_run, Cond.selects RX4 yX4_run yX4_run, Cond.code yX4_run cX4_run 1 (some .int), Cond.methodLink RX4 75 yX4_moon, Cond.instanceMethod yX4_moon, Cond.selects RX4 yX4_moon yX4_moon, Cond.code yX4_moon cX4_moon 2 (some .int)]
def wsX5_lasts_r4 : List Cond := [Cond.methodLink RX4 79 yX4_isHeld, Cond.methodLink RX4 115 yX4_goUp, Cond.instanceMethod yX4_goUp, Cond.selects RX4 yX4_goUp yX4_goUp, Cond.code yX4_goUp cX4_goUp 3 none, Cond.methodLink RX4 105 yX4_breaks, Cond.instanceMethod yX4_breaks, Cond.selects RX4 yX4_breaks yX4_breaks, Cond.code yX4_breaks cX4_breaks 5 (some .boolean), Cond.methodLink RX4 98 yX4_isInWay, Cond.instanceMethod yX4_isInWay, Cond.selects RX4 yX4_isInWay yX4_isInWay, Cond.code yX4_isInWay cX4_isInWay 3 (some .boolean), Cond.methodLink RX4 119 yX4_leave, Cond.instanceMethod yX4_leave, Cond.selects RX4 yX4_leave yX4_leave, Cond.code yX4_leave cX4_leave 3 none, Cond.methodLink RX4 122 yX4_payRent, Cond.instanceMethod yX4_payRent, Cond.selects RX4 yX4_payRent yX4_payRent, Cond.code yX4_payRent cX4_payRent 2 none]
def wsX5_lasts : List Cond := .code yX5_lasts cX5_lasts 3 (some .int) :: ((wsX5_lasts_r1 ++ (wsX5_lasts_r2 ++ (wsX5_lasts_r3 ++ wsX5_lasts_r4))) ++ wsX50 ++ wsX40)
def wsX5_foresee_r1 : List Cond := [Cond.fieldLink RX5 31 "StakeWeirsModel" "thrown" "I", Cond.fieldLink RX5 28 "StakeWeirsModel" "ahead" "LStakeWeirsModel$State;", Cond.fieldLink RX5 24 "StakeWeirsModel" "s" "LStakeWeirsModel$State;", Cond.methodLink RX5 38 yX5_isIn, Cond.static yX5_isIn, Cond.initialized RX5, Cond.code yX5_isIn cX5_isIn 3 (some .boolean), Cond.methodLink RX5 45 yX5_no, Cond.instanceMethod yX5_no, Cond.selects RX5 yX5_no yX5_no, Cond.code yX5_no cX5_no 2 (some .int), Cond.methodLink RX5 114 yX4_become, Cond.instanceMethod yX4_become, Cond.selects RX4 yX4_become yX4_become, Cond.initialized RX4, Cond.code yX4_become cX4_become 3 (some (.object "StakeWeirsModel$State")), Cond.fieldLink RX4 52 "StakeWeirsModel$State" "night" "I", Cond.fieldLink RX4 56 "StakeWeirsModel$State" "barges" "I", Cond.fieldLink RX4 59 "StakeWeirsModel$State" "arrived" "I", Cond.fieldLink RX4 62 "StakeWeirsModel$State" "fines" "I", Cond.fieldLink RX4 65 "StakeWeirsModel$State" "rents" "I", Cond.fieldLink RX4 15 "StakeWeirsModel$State" "stakes" "[I", Cond.fieldLink RX4 19 "StakeWeirsModel$State" "wattle" "[I", Cond.fieldLink RX4 22 "StakeWeirsModel$State" "coins" "[I"]
def wsX5_foresee_r2 : List Cond := [Cond.fieldLink RX4 25 "StakeWeirsModel$State" "eels" "[I", Cond.fieldLink RX4 28 "StakeWeirsModel$State" "open" "[I", Cond.fieldLink RX4 31 "StakeWeirsModel$State" "owes" "[I", Cond.fieldLink RX4 34 "StakeWeirsModel$State" "wide" "[I", Cond.fieldLink RX4 37 "StakeWeirsModel$State" "at" "[I", Cond.fieldLink RX4 40 "StakeWeirsModel$State" "broken" "[I", Cond.fieldLink RX4 43 "StakeWeirsModel$State" "was" "[I", Cond.methodLink RX4 68 yX4_copy, Cond.instanceMethod yX4_copy, Cond.selects RX4 yX4_copy yX4_copy, Cond.code yX4_copy cX4_copy 3 none, Cond.methodLink RX4 46 arraycopyName, Cond.native arraycopyName, Cond.static arraycopyName, Cond.initialized "java/lang/System", Cond.methodLink RX5 110 yX4_pass_, Cond.instanceMethod yX4_pass_, Cond.selects RX4 yX4_pass_ yX4_pass_, Cond.code yX4_pass_ cX4_pass_ 3 none, Cond.methodLink RX4 125 yX4_pass, Cond.instanceMethod yX4_pass, Cond.selects RX4 yX4_pass yX4_pass, Cond.code yX4_pass cX4_pass 2 none, Cond.fieldLink RX4 3 "StakeWeirsModel$State" "this$0" "LStakeWeirsModel;"]
def wsX5_foresee_r3 : List Cond := [Cond.methodLink RX4 102 Lib.Math.max.name, Cond.static Lib.Math.max.name, Cond.initialized "java/lang/Math", Cond.code Lib.Math.max.name Lib.Math.max.code 2 (some .int), Cond.methodLink RX4 111 yX4_runDown, Cond.instanceMethod yX4_runDown, Cond.selects RX4 yX4_runDown yX4_runDown, Cond.code yX4_runDown cX4_runDown 7 (some .int), Cond.methodLink RX4 92 Lib.Math.min.name, Cond.static Lib.Math.min.name, Cond.code Lib.Math.min.name Lib.Math.min.code 2 (some .int), Cond.methodLink RX4 83 yX4_run, Cond.instanceMethod yX4_run, Cond.selects RX4 yX4_run yX4_run, Cond.code yX4_run cX4_run 1 (some .int), Cond.methodLink RX4 75 yX4_moon, Cond.instanceMethod yX4_moon, Cond.selects RX4 yX4_moon yX4_moon, Cond.code yX4_moon cX4_moon 2 (some .int), Cond.methodLink RX4 79 yX4_isHeld, Cond.instanceMethod yX4_isHeld, Cond.selects RX4 yX4_isHeld yX4_isHeld, Cond.code yX4_isHeld cX4_isHeld 2 (some .boolean), Cond.methodLink RX4 115 yX4_goUp]
def wsX5_foresee_r4 : List Cond := [Cond.instanceMethod yX4_goUp, Cond.selects RX4 yX4_goUp yX4_goUp, Cond.code yX4_goUp cX4_goUp 3 none, Cond.methodLink RX4 105 yX4_breaks, Cond.instanceMethod yX4_breaks, Cond.selects RX4 yX4_breaks yX4_breaks, Cond.code yX4_breaks cX4_breaks 5 (some .boolean), Cond.methodLink RX4 98 yX4_isInWay, Cond.instanceMethod yX4_isInWay, Cond.selects RX4 yX4_isInWay yX4_isInWay, Cond.code yX4_isInWay cX4_isInWay 3 (some .boolean), Cond.methodLink RX4 119 yX4_leave, Cond.instanceMethod yX4_leave, Cond.selects RX4 yX4_leave yX4_leave, Cond.code yX4_leave cX4_leave 3 none, Cond.methodLink RX4 122 yX4_payRent, Cond.instanceMethod yX4_payRent, Cond.selects RX4 yX4_payRent yX4_payRent, Cond.code yX4_payRent cX4_payRent 2 none, Cond.methodLink RX5 104 yX4_counted, Cond.instanceMethod yX4_counted, Cond.selects RX4 yX4_counted yX4_counted, Cond.code yX4_counted cX4_counted 3 (some .int), Cond.arrayClass .int]
def wsX5_foresee_r5 : List Cond := [Cond.methodLink RX4 128 yX4_held, Cond.instanceMethod yX4_held, Cond.selects RX4 yX4_held yX4_held, Cond.code yX4_held cX4_held 3 (some .int), Cond.methodLink RX4 131 yX4_allEels, Cond.instanceMethod yX4_allEels, Cond.selects RX4 yX4_allEels yX4_allEels, Cond.code yX4_allEels cX4_allEels 3 (some .int)]
def wsX5_foresee : List Cond := .code yX5_foresee cX5_foresee 3 (some .int) :: ((wsX5_foresee_r1 ++ (wsX5_foresee_r2 ++ (wsX5_foresee_r3 ++ (wsX5_foresee_r4 ++ wsX5_foresee_r5)))) ++ wsX50 ++ wsX40)
def wsX5_advise_r1 : List Cond := [Cond.fieldLink RX5 31 "StakeWeirsModel" "thrown" "I", Cond.fieldLink RX5 28 "StakeWeirsModel" "ahead" "LStakeWeirsModel$State;", Cond.fieldLink RX5 24 "StakeWeirsModel" "s" "LStakeWeirsModel$State;", Cond.methodLink RX5 58 yX5_isWeir, Cond.instanceMethod yX5_isWeir, Cond.selects RX5 yX5_isWeir yX5_isWeir, Cond.initialized RX5, Cond.code yX5_isWeir cX5_isWeir 2 (some .boolean), Cond.fieldLink RX5 35 "StakeWeirsModel" "weirs" "I", Cond.methodLink RX5 38 yX5_isIn, Cond.static yX5_isIn, Cond.code yX5_isIn cX5_isIn 3 (some .boolean), Cond.methodLink RX5 45 yX5_no, Cond.instanceMethod yX5_no, Cond.selects RX5 yX5_no yX5_no, Cond.code yX5_no cX5_no 2 (some .int), Cond.methodLink RX5 114 yX4_become, Cond.instanceMethod yX4_become, Cond.selects RX4 yX4_become yX4_become, Cond.initialized RX4, Cond.code yX4_become cX4_become 3 (some (.object "StakeWeirsModel$State")), Cond.fieldLink RX4 52 "StakeWeirsModel$State" "night" "I", Cond.fieldLink RX4 56 "StakeWeirsModel$State" "barges" "I", Cond.fieldLink RX4 59 "StakeWeirsModel$State" "arrived" "I"]
def wsX5_advise_r2 : List Cond := [Cond.fieldLink RX4 62 "StakeWeirsModel$State" "fines" "I", Cond.fieldLink RX4 65 "StakeWeirsModel$State" "rents" "I", Cond.fieldLink RX4 15 "StakeWeirsModel$State" "stakes" "[I", Cond.fieldLink RX4 19 "StakeWeirsModel$State" "wattle" "[I", Cond.fieldLink RX4 22 "StakeWeirsModel$State" "coins" "[I", Cond.fieldLink RX4 25 "StakeWeirsModel$State" "eels" "[I", Cond.fieldLink RX4 28 "StakeWeirsModel$State" "open" "[I", Cond.fieldLink RX4 31 "StakeWeirsModel$State" "owes" "[I", Cond.fieldLink RX4 34 "StakeWeirsModel$State" "wide" "[I", Cond.fieldLink RX4 37 "StakeWeirsModel$State" "at" "[I", Cond.fieldLink RX4 40 "StakeWeirsModel$State" "broken" "[I", Cond.fieldLink RX4 43 "StakeWeirsModel$State" "was" "[I", Cond.methodLink RX4 68 yX4_copy, Cond.instanceMethod yX4_copy, Cond.selects RX4 yX4_copy yX4_copy, Cond.code yX4_copy cX4_copy 3 none, Cond.methodLink RX4 46 arraycopyName, Cond.native arraycopyName, Cond.static arraycopyName, Cond.initialized "java/lang/System", Cond.methodLink RX5 110 yX4_pass_, Cond.instanceMethod yX4_pass_, Cond.selects RX4 yX4_pass_ yX4_pass_, Cond.code yX4_pass_ cX4_pass_ 3 none]
def wsX5_advise_r3 : List Cond := [Cond.methodLink RX4 125 yX4_pass, Cond.instanceMethod yX4_pass, Cond.selects RX4 yX4_pass yX4_pass, Cond.code yX4_pass cX4_pass 2 none, Cond.fieldLink RX4 3 "StakeWeirsModel$State" "this$0" "LStakeWeirsModel;", Cond.methodLink RX4 102 Lib.Math.max.name, Cond.static Lib.Math.max.name, Cond.initialized "java/lang/Math", Cond.code Lib.Math.max.name Lib.Math.max.code 2 (some .int), Cond.methodLink RX4 111 yX4_runDown, Cond.instanceMethod yX4_runDown, Cond.selects RX4 yX4_runDown yX4_runDown, Cond.code yX4_runDown cX4_runDown 7 (some .int), Cond.methodLink RX4 92 Lib.Math.min.name, Cond.static Lib.Math.min.name, Cond.code Lib.Math.min.name Lib.Math.min.code 2 (some .int), Cond.methodLink RX4 83 yX4_run, Cond.instanceMethod yX4_run, Cond.selects RX4 yX4_run yX4_run, Cond.code yX4_run cX4_run 1 (some .int), Cond.methodLink RX4 75 yX4_moon, Cond.instanceMethod yX4_moon, Cond.selects RX4 yX4_moon yX4_moon, Cond.code yX4_moon cX4_moon 2 (some .int)]
def wsX5_advise_r4 : List Cond := [Cond.methodLink RX4 79 yX4_isHeld, Cond.instanceMethod yX4_isHeld, Cond.selects RX4 yX4_isHeld yX4_isHeld, Cond.code yX4_isHeld cX4_isHeld 2 (some .boolean), Cond.methodLink RX4 115 yX4_goUp, Cond.instanceMethod yX4_goUp, Cond.selects RX4 yX4_goUp yX4_goUp, Cond.code yX4_goUp cX4_goUp 3 none, Cond.methodLink RX4 105 yX4_breaks, Cond.instanceMethod yX4_breaks, Cond.selects RX4 yX4_breaks yX4_breaks, Cond.code yX4_breaks cX4_breaks 5 (some .boolean), Cond.methodLink RX4 98 yX4_isInWay, Cond.instanceMethod yX4_isInWay, Cond.selects RX4 yX4_isInWay yX4_isInWay, Cond.code yX4_isInWay cX4_isInWay 3 (some .boolean), Cond.methodLink RX4 119 yX4_leave, Cond.instanceMethod yX4_leave, Cond.selects RX4 yX4_leave yX4_leave, Cond.code yX4_leave cX4_leave 3 none, Cond.methodLink RX4 122 yX4_payRent, Cond.instanceMethod yX4_payRent, Cond.selects RX4 yX4_payRent yX4_payRent, Cond.code yX4_payRent cX4_payRent 2 none]
def wsX5_advise : List Cond := .code yX5_advise cX5_advise 6 (some .int) :: ((wsX5_advise_r1 ++ (wsX5_advise_r2 ++ (wsX5_advise_r3 ++ wsX5_advise_r4))) ++ wsX50 ++ wsX40)
def wsX5_mean : List Cond := .code yX5_mean cX5_mean 3 (some .double) :: ([.fieldLink RX5 31 "StakeWeirsModel" "thrown" "I", .fieldLink RX5 35 "StakeWeirsModel" "weirs" "I", .fieldLink RX5 24 "StakeWeirsModel" "s" "LStakeWeirsModel$State;", .methodLink RX5 62 yX4_isHeld, .instanceMethod yX4_isHeld, .selects RX4 yX4_isHeld yX4_isHeld, .initialized RX4, .code yX4_isHeld cX4_isHeld 2 (some .boolean), .fieldLink RX4 31 "StakeWeirsModel$State" "owes" "[I", .methodLink RX5 129 yX4_held, .instanceMethod yX4_held, .selects RX4 yX4_held yX4_held, .code yX4_held cX4_held 3 (some .int), .fieldLink RX4 3 "StakeWeirsModel$State" "this$0" "LStakeWeirsModel;", .methodLink RX4 79 yX4_isHeld] ++ wsX50 ++ wsX40)
def wsX5_digest_r1 : List Cond := [Cond.fieldLink RX5 31 "StakeWeirsModel" "thrown" "I", Cond.constantLong RX5 132 (1409), Cond.constantLong RX5 134 (31), Cond.fieldLink RX5 24 "StakeWeirsModel" "s" "LStakeWeirsModel$State;", Cond.fieldLink RX5 7 "StakeWeirsModel" "table" "[I", Cond.fieldLink RX5 35 "StakeWeirsModel" "weirs" "I", Cond.methodLink RX5 104 yX4_counted, Cond.instanceMethod yX4_counted, Cond.selects RX4 yX4_counted yX4_counted, Cond.initialized RX4, Cond.code yX4_counted cX4_counted 3 (some .int), Cond.arrayClass .int, Cond.fieldLink RX4 52 "StakeWeirsModel$State" "night" "I", Cond.fieldLink RX4 3 "StakeWeirsModel$State" "this$0" "LStakeWeirsModel;", Cond.fieldLink RX4 56 "StakeWeirsModel$State" "barges" "I", Cond.fieldLink RX4 59 "StakeWeirsModel$State" "arrived" "I", Cond.fieldLink RX4 62 "StakeWeirsModel$State" "fines" "I", Cond.fieldLink RX4 65 "StakeWeirsModel$State" "rents" "I", Cond.methodLink RX4 75 yX4_moon, Cond.instanceMethod yX4_moon, Cond.selects RX4 yX4_moon yX4_moon, Cond.code yX4_moon cX4_moon 2 (some .int), Cond.methodLink RX4 83 yX4_run, Cond.instanceMethod yX4_run]
def wsX5_digest_r2 : List Cond := [Cond.selects RX4 yX4_run yX4_run, Cond.code yX4_run cX4_run 1 (some .int), Cond.methodLink RX4 128 yX4_held, Cond.instanceMethod yX4_held, Cond.selects RX4 yX4_held yX4_held, Cond.code yX4_held cX4_held 3 (some .int), Cond.methodLink RX4 79 yX4_isHeld, Cond.instanceMethod yX4_isHeld, Cond.selects RX4 yX4_isHeld yX4_isHeld, Cond.code yX4_isHeld cX4_isHeld 2 (some .boolean), Cond.fieldLink RX4 31 "StakeWeirsModel$State" "owes" "[I", Cond.methodLink RX4 131 yX4_allEels, Cond.instanceMethod yX4_allEels, Cond.selects RX4 yX4_allEels yX4_allEels, Cond.code yX4_allEels cX4_allEels 3 (some .int), Cond.fieldLink RX4 25 "StakeWeirsModel$State" "eels" "[I", Cond.methodLink RX5 87 yX5_weirTold, Cond.instanceMethod yX5_weirTold, Cond.selects RX5 yX5_weirTold yX5_weirTold, Cond.initialized RX5, Cond.code yX5_weirTold cX5_weirTold 4 (some .int), Cond.fieldLink RX5 13 "StakeWeirsModel" "place" "[I", Cond.fieldLink RX5 16 "StakeWeirsModel" "rent" "[I", Cond.methodLink RX5 101 yX5_bargeTold]
def wsX5_digest_r3 : List Cond := [Cond.instanceMethod yX5_bargeTold, Cond.selects RX5 yX5_bargeTold yX5_bargeTold, Cond.code yX5_bargeTold cX5_bargeTold 3 (some .int), Cond.methodLink RX5 95 yX5_nextFor, Cond.instanceMethod yX5_nextFor, Cond.selects RX5 yX5_nextFor yX5_nextFor, Cond.code yX5_nextFor cX5_nextFor 4 (some .int), Cond.methodLink RX5 91 yX4_isInWay, Cond.instanceMethod yX4_isInWay, Cond.selects RX4 yX4_isInWay yX4_isInWay, Cond.code yX4_isInWay cX4_isInWay 3 (some .boolean), Cond.fieldLink RX4 28 "StakeWeirsModel$State" "open" "[I", Cond.fieldLink RX4 15 "StakeWeirsModel$State" "stakes" "[I"]
def wsX5_digest : List Cond := .code yX5_digest cX5_digest 7 (some .long) :: ((wsX5_digest_r1 ++ (wsX5_digest_r2 ++ wsX5_digest_r3)) ++ wsX50 ++ wsX40)
def wsJ9_max_7cf53 : List Cond := .code yJ9_max_7cf53 cJ9_max_7cf53 2 (some .int) :: ([])
def wsJ9_min_7cf53 : List Cond := .code yJ9_min_7cf53 cJ9_min_7cf53 2 (some .int) :: ([])
def wsL_weir_r1 : List Cond := [Cond.classLink RL 13 "java/lang/IllegalArgumentException", Cond.classLink RL 15 "java/lang/IllegalStateException", Cond.methodLink RL 7 yX3_weir, Cond.instanceMethod yX3_weir, Cond.selects RX3 yX3_weir yX3_weir, Cond.initialized RX3, Cond.code yX3_weir cX3_weir 4 (some .int), Cond.classLink RX3 23 "java/lang/IllegalArgumentException", Cond.initialized "java/lang/IllegalArgumentException", Cond.classLink RX3 34 "java/lang/IllegalStateException", Cond.initialized "java/lang/IllegalStateException", Cond.fieldLink RX3 12 "StakeWeirs" "now" "LStakeWeirs$Estuary;", Cond.fieldLink RX3 30 "StakeWeirs$Estuary" "weirCount" "I", Cond.methodLink RX3 19 yX3_isWithin, Cond.static yX3_isWithin, Cond.code yX3_isWithin cX3_isWithin 3 (some .boolean), Cond.methodLink RX3 39 yX1_addWeir, Cond.instanceMethod yX1_addWeir, Cond.selects RX1 yX1_addWeir yX1_addWeir, Cond.initialized RX1, Cond.code yX1_addWeir cX1_addWeir 6 (some .int), Cond.fieldLink RX1 39 "StakeWeirs$Estuary" "weirCount" "I", Cond.methodLink RX1 81 yX1_putInOrder, Cond.instanceMethod yX1_putInOrder]
def wsL_weir_r2 : List Cond := [Cond.selects RX1 yX1_putInOrder yX1_putInOrder, Cond.code yX1_putInOrder cX1_putInOrder 4 none, Cond.fieldLink RX1 15 "StakeWeirs$Estuary" "order" "[I", Cond.methodLink RX1 89 yX1_isSeawardsOf, Cond.instanceMethod yX1_isSeawardsOf, Cond.selects RX1 yX1_isSeawardsOf yX1_isSeawardsOf, Cond.code yX1_isSeawardsOf cX1_isSeawardsOf 4 (some .boolean), Cond.fieldLink RX1 93 "StakeWeirs$Weir" "place" "I", Cond.methodLink RX1 43 yX1_weirAt, Cond.instanceMethod yX1_weirAt, Cond.selects RX1 yX1_weirAt yX1_weirAt, Cond.code yX1_weirAt cX1_weirAt 3 (some (.object "StakeWeirs$Weir")), Cond.fieldLink RX1 20 "StakeWeirs$Estuary" "weirs" "[LStakeWeirs$Weir;", Cond.methodLink RX1 85 yX2_makeNew, Cond.instanceMethod yX2_makeNew, Cond.selects RX2 yX2_makeNew yX2_makeNew, Cond.initialized RX2, Cond.code yX2_makeNew cX2_makeNew 4 none, Cond.fieldLink RX2 9 "StakeWeirs$Weir" "place" "I", Cond.fieldLink RX2 15 "StakeWeirs$Weir" "stakes" "I", Cond.fieldLink RX2 18 "StakeWeirs$Weir" "wattle" "I", Cond.fieldLink RX2 21 "StakeWeirs$Weir" "rent" "I", Cond.fieldLink RX2 24 "StakeWeirs$Weir" "coins" "I", Cond.fieldLink RX2 27 "StakeWeirs$Weir" "eels" "I"]
def wsL_weir_r3 : List Cond := [Cond.fieldLink RX2 30 "StakeWeirs$Weir" "open" "Z", Cond.fieldLink RX2 34 "StakeWeirs$Weir" "owed" "I"]
def wsL_weir : List Cond := .codeWith yL_weir cL_weir 6 (some .int) [(0, 12, 15, 13), (0, 12, 19, 15)] :: ((wsL_weir_r1 ++ (wsL_weir_r2 ++ wsL_weir_r3)) ++ wsX30 ++ wsX10 ++ wsX20 ++ (vx_atS RX3 27 "java/lang/IllegalArgumentException" ["java/lang/RuntimeException", "java/lang/Exception"]).filter goodWord ++ (vx_atS RX3 38 "java/lang/IllegalStateException" ["java/lang/RuntimeException", "java/lang/Exception"]).filter goodWord)
def wsL_gate_r1 : List Cond := [Cond.classLink RL 21 "java/lang/IndexOutOfBoundsException", Cond.classLink RL 15 "java/lang/IllegalStateException", Cond.methodLink RL 17 yX3_gate, Cond.instanceMethod yX3_gate, Cond.selects RX3 yX3_gate yX3_gate, Cond.initialized RX3, Cond.code yX3_gate cX3_gate 3 (some .boolean), Cond.classLink RX3 47 "java/lang/IndexOutOfBoundsException", Cond.initialized "java/lang/IndexOutOfBoundsException", Cond.classLink RX3 34 "java/lang/IllegalStateException", Cond.initialized "java/lang/IllegalStateException", Cond.fieldLink RX3 12 "StakeWeirs" "now" "LStakeWeirs$Estuary;", Cond.fieldLink RX3 60 "StakeWeirs$Weir" "open" "Z", Cond.methodLink RX3 43 yX1_weirAt, Cond.instanceMethod yX1_weirAt, Cond.selects RX1 yX1_weirAt yX1_weirAt, Cond.initialized RX1, Cond.code yX1_weirAt cX1_weirAt 3 (some (.object "StakeWeirs$Weir")), Cond.fieldLink RX1 39 "StakeWeirs$Estuary" "weirCount" "I", Cond.fieldLink RX1 20 "StakeWeirs$Estuary" "weirs" "[LStakeWeirs$Weir;", Cond.methodLink RX3 52 yX2_isHeld, Cond.instanceMethod yX2_isHeld, Cond.selects RX2 yX2_isHeld yX2_isHeld, Cond.initialized RX2]
def wsL_gate_r2 : List Cond := [Cond.code yX2_isHeld cX2_isHeld 1 (some .boolean), Cond.fieldLink RX2 34 "StakeWeirs$Weir" "owed" "I"]
def wsL_gate : List Cond := .codeWith yL_gate cL_gate 4 (some .int) [(0, 16, 19, 21), (0, 16, 22, 15)] :: ((wsL_gate_r1 ++ wsL_gate_r2) ++ wsX30 ++ wsX20 ++ wsX10 ++ (vx_atS RX3 51 "java/lang/IndexOutOfBoundsException" ["java/lang/RuntimeException", "java/lang/Exception"]).filter goodWord ++ (vx_atS RX3 38 "java/lang/IllegalStateException" ["java/lang/RuntimeException", "java/lang/Exception"]).filter goodWord)
def wsL_mend_r1 : List Cond := [Cond.classLink RL 21 "java/lang/IndexOutOfBoundsException", Cond.classLink RL 13 "java/lang/IllegalArgumentException", Cond.classLink RL 15 "java/lang/IllegalStateException", Cond.methodLink RL 23 yX3_mend, Cond.instanceMethod yX3_mend, Cond.selects RX3 yX3_mend yX3_mend, Cond.initialized RX3, Cond.code yX3_mend cX3_mend 5 (some .int), Cond.classLink RX3 47 "java/lang/IndexOutOfBoundsException", Cond.initialized "java/lang/IndexOutOfBoundsException", Cond.classLink RX3 23 "java/lang/IllegalArgumentException", Cond.initialized "java/lang/IllegalArgumentException", Cond.classLink RX3 34 "java/lang/IllegalStateException", Cond.initialized "java/lang/IllegalStateException", Cond.fieldLink RX3 12 "StakeWeirs" "now" "LStakeWeirs$Estuary;", Cond.fieldLink RX3 66 "StakeWeirs$Weir" "wattle" "I", Cond.fieldLink RX3 69 "StakeWeirs$Weir" "coins" "I", Cond.methodLink RX3 43 yX1_weirAt, Cond.instanceMethod yX1_weirAt, Cond.selects RX1 yX1_weirAt yX1_weirAt, Cond.initialized RX1, Cond.code yX1_weirAt cX1_weirAt 3 (some (.object "StakeWeirs$Weir")), Cond.fieldLink RX1 39 "StakeWeirs$Estuary" "weirCount" "I", Cond.fieldLink RX1 20 "StakeWeirs$Estuary" "weirs" "[LStakeWeirs$Weir;"]
def wsL_mend_r2 : List Cond := [Cond.methodLink RX3 19 yX3_isWithin, Cond.static yX3_isWithin, Cond.code yX3_isWithin cX3_isWithin 3 (some .boolean), Cond.methodLink RX3 52 yX2_isHeld, Cond.instanceMethod yX2_isHeld, Cond.selects RX2 yX2_isHeld yX2_isHeld, Cond.initialized RX2, Cond.code yX2_isHeld cX2_isHeld 1 (some .boolean), Cond.fieldLink RX2 34 "StakeWeirs$Weir" "owed" "I"]
def wsL_mend : List Cond := .codeWith yL_mend cL_mend 5 (some .int) [(0, 10, 13, 21), (0, 10, 17, 13), (0, 10, 21, 15)] :: ((wsL_mend_r1 ++ wsL_mend_r2) ++ wsX30 ++ wsX20 ++ wsX10 ++ (vx_atS RX3 51 "java/lang/IndexOutOfBoundsException" ["java/lang/RuntimeException", "java/lang/Exception"]).filter goodWord ++ (vx_atS RX3 27 "java/lang/IllegalArgumentException" ["java/lang/RuntimeException", "java/lang/Exception"]).filter goodWord ++ (vx_atS RX3 38 "java/lang/IllegalStateException" ["java/lang/RuntimeException", "java/lang/Exception"]).filter goodWord)
def wsL_drive_r1 : List Cond := [Cond.classLink RL 21 "java/lang/IndexOutOfBoundsException", Cond.classLink RL 13 "java/lang/IllegalArgumentException", Cond.classLink RL 15 "java/lang/IllegalStateException", Cond.methodLink RL 27 yX3_drive, Cond.instanceMethod yX3_drive, Cond.selects RX3 yX3_drive yX3_drive, Cond.initialized RX3, Cond.code yX3_drive cX3_drive 5 (some .int), Cond.classLink RX3 47 "java/lang/IndexOutOfBoundsException", Cond.initialized "java/lang/IndexOutOfBoundsException", Cond.classLink RX3 23 "java/lang/IllegalArgumentException", Cond.initialized "java/lang/IllegalArgumentException", Cond.classLink RX3 34 "java/lang/IllegalStateException", Cond.initialized "java/lang/IllegalStateException", Cond.fieldLink RX3 12 "StakeWeirs" "now" "LStakeWeirs$Estuary;", Cond.fieldLink RX3 76 "StakeWeirs$Weir" "stakes" "I", Cond.fieldLink RX3 69 "StakeWeirs$Weir" "coins" "I", Cond.methodLink RX3 43 yX1_weirAt, Cond.instanceMethod yX1_weirAt, Cond.selects RX1 yX1_weirAt yX1_weirAt, Cond.initialized RX1, Cond.code yX1_weirAt cX1_weirAt 3 (some (.object "StakeWeirs$Weir")), Cond.fieldLink RX1 39 "StakeWeirs$Estuary" "weirCount" "I", Cond.fieldLink RX1 20 "StakeWeirs$Estuary" "weirs" "[LStakeWeirs$Weir;"]
def wsL_drive_r2 : List Cond := [Cond.methodLink RX3 19 yX3_isWithin, Cond.static yX3_isWithin, Cond.code yX3_isWithin cX3_isWithin 3 (some .boolean), Cond.methodLink RX3 52 yX2_isHeld, Cond.instanceMethod yX2_isHeld, Cond.selects RX2 yX2_isHeld yX2_isHeld, Cond.initialized RX2, Cond.code yX2_isHeld cX2_isHeld 1 (some .boolean), Cond.fieldLink RX2 34 "StakeWeirs$Weir" "owed" "I"]
def wsL_drive : List Cond := .codeWith yL_drive cL_drive 5 (some .int) [(0, 10, 13, 21), (0, 10, 17, 13), (0, 10, 21, 15)] :: ((wsL_drive_r1 ++ wsL_drive_r2) ++ wsX30 ++ wsX20 ++ wsX10 ++ (vx_atS RX3 51 "java/lang/IndexOutOfBoundsException" ["java/lang/RuntimeException", "java/lang/Exception"]).filter goodWord ++ (vx_atS RX3 27 "java/lang/IllegalArgumentException" ["java/lang/RuntimeException", "java/lang/Exception"]).filter goodWord ++ (vx_atS RX3 38 "java/lang/IllegalStateException" ["java/lang/RuntimeException", "java/lang/Exception"]).filter goodWord)
def wsL_sell_r1 : List Cond := [Cond.classLink RL 21 "java/lang/IndexOutOfBoundsException", Cond.classLink RL 15 "java/lang/IllegalStateException", Cond.methodLink RL 30 yX3_sell, Cond.instanceMethod yX3_sell, Cond.selects RX3 yX3_sell yX3_sell, Cond.initialized RX3, Cond.code yX3_sell cX3_sell 4 (some .int), Cond.classLink RX3 47 "java/lang/IndexOutOfBoundsException", Cond.initialized "java/lang/IndexOutOfBoundsException", Cond.classLink RX3 34 "java/lang/IllegalStateException", Cond.initialized "java/lang/IllegalStateException", Cond.fieldLink RX3 12 "StakeWeirs" "now" "LStakeWeirs$Estuary;", Cond.fieldLink RX3 81 "StakeWeirs$Weir" "eels" "I", Cond.fieldLink RX3 69 "StakeWeirs$Weir" "coins" "I", Cond.methodLink RX3 43 yX1_weirAt, Cond.instanceMethod yX1_weirAt, Cond.selects RX1 yX1_weirAt yX1_weirAt, Cond.initialized RX1, Cond.code yX1_weirAt cX1_weirAt 3 (some (.object "StakeWeirs$Weir")), Cond.fieldLink RX1 39 "StakeWeirs$Estuary" "weirCount" "I", Cond.fieldLink RX1 20 "StakeWeirs$Estuary" "weirs" "[LStakeWeirs$Weir;", Cond.methodLink RX3 52 yX2_isHeld, Cond.instanceMethod yX2_isHeld, Cond.selects RX2 yX2_isHeld yX2_isHeld]
def wsL_sell_r2 : List Cond := [Cond.initialized RX2, Cond.code yX2_isHeld cX2_isHeld 1 (some .boolean), Cond.fieldLink RX2 34 "StakeWeirs$Weir" "owed" "I", Cond.methodLink RX3 86 yX1_moon, Cond.instanceMethod yX1_moon, Cond.selects RX1 yX1_moon yX1_moon, Cond.code yX1_moon cX1_moon 2 (some .int), Cond.fieldLink RX1 62 "StakeWeirs$Estuary" "night" "I", Cond.methodLink RX1 101 yJ9_floorMod_7cf53, Cond.static yJ9_floorMod_7cf53, Cond.initialized RJ9, Cond.code yJ9_floorMod_7cf53 cJ9_floorMod_7cf53 3 (some .int), Cond.methodLink RX3 90 yX3_priceOfEels, Cond.static yX3_priceOfEels, Cond.code yX3_priceOfEels cX3_priceOfEels 2 (some .int)]
def wsL_sell : List Cond := .codeWith yL_sell cL_sell 4 (some .int) [(0, 9, 12, 21), (0, 9, 15, 15)] :: ((wsL_sell_r1 ++ wsL_sell_r2) ++ wsX30 ++ wsX20 ++ wsX10 ++ (vx_atS RX3 51 "java/lang/IndexOutOfBoundsException" ["java/lang/RuntimeException", "java/lang/Exception"]).filter goodWord ++ (vx_atS RX3 38 "java/lang/IllegalStateException" ["java/lang/RuntimeException", "java/lang/Exception"]).filter goodWord)
def wsL_setRun_r1 : List Cond := [Cond.classLink RL 21 "java/lang/IndexOutOfBoundsException", Cond.classLink RL 13 "java/lang/IllegalArgumentException", Cond.methodLink RL 34 yX3_setRun, Cond.instanceMethod yX3_setRun, Cond.selects RX3 yX3_setRun yX3_setRun, Cond.initialized RX3, Cond.code yX3_setRun cX3_setRun 4 (some .int), Cond.classLink RX3 47 "java/lang/IndexOutOfBoundsException", Cond.initialized "java/lang/IndexOutOfBoundsException", Cond.classLink RX3 23 "java/lang/IllegalArgumentException", Cond.initialized "java/lang/IllegalArgumentException", Cond.fieldLink RX3 12 "StakeWeirs" "now" "LStakeWeirs$Estuary;", Cond.methodLink RX3 19 yX3_isWithin, Cond.static yX3_isWithin, Cond.code yX3_isWithin cX3_isWithin 3 (some .boolean), Cond.methodLink RX3 98 yX1_tableEels, Cond.instanceMethod yX1_tableEels, Cond.selects RX1 yX1_tableEels yX1_tableEels, Cond.initialized RX1, Cond.code yX1_tableEels cX1_tableEels 2 (some .int), Cond.fieldLink RX1 9 "StakeWeirs$Estuary" "table" "[I", Cond.methodLink RX3 102 yX1_setTableEels, Cond.instanceMethod yX1_setTableEels, Cond.selects RX1 yX1_setTableEels yX1_setTableEels]
def wsL_setRun_r2 : List Cond := [Cond.code yX1_setTableEels cX1_setTableEels 3 none]
def wsL_setRun : List Cond := .codeWith yL_setRun cL_setRun 5 (some .int) [(0, 10, 13, 21), (0, 10, 17, 13)] :: ((wsL_setRun_r1 ++ wsL_setRun_r2) ++ wsX30 ++ wsX10 ++ (vx_atS RX3 51 "java/lang/IndexOutOfBoundsException" ["java/lang/RuntimeException", "java/lang/Exception"]).filter goodWord ++ (vx_atS RX3 27 "java/lang/IllegalArgumentException" ["java/lang/RuntimeException", "java/lang/Exception"]).filter goodWord)
def wsL_barge_r1 : List Cond := [Cond.classLink RL 13 "java/lang/IllegalArgumentException", Cond.classLink RL 15 "java/lang/IllegalStateException", Cond.methodLink RL 37 yX3_barge, Cond.instanceMethod yX3_barge, Cond.selects RX3 yX3_barge yX3_barge, Cond.initialized RX3, Cond.code yX3_barge cX3_barge 2 (some .int), Cond.classLink RX3 23 "java/lang/IllegalArgumentException", Cond.initialized "java/lang/IllegalArgumentException", Cond.classLink RX3 34 "java/lang/IllegalStateException", Cond.initialized "java/lang/IllegalStateException", Cond.fieldLink RX3 12 "StakeWeirs" "now" "LStakeWeirs$Estuary;", Cond.fieldLink RX3 108 "StakeWeirs$Estuary" "bargeCount" "I", Cond.methodLink RX3 19 yX3_isWithin, Cond.static yX3_isWithin, Cond.code yX3_isWithin cX3_isWithin 3 (some .boolean), Cond.methodLink RX3 113 yX1_addBarge, Cond.instanceMethod yX1_addBarge, Cond.selects RX1 yX1_addBarge yX1_addBarge, Cond.initialized RX1, Cond.code yX1_addBarge cX1_addBarge 4 (some .int), Cond.fieldLink RX1 51 "StakeWeirs$Estuary" "bargeCount" "I", Cond.fieldLink RX1 65 "StakeWeirs$Estuary" "arrived" "I", Cond.methodLink RX1 54 yX1_bargeAt]
def wsL_barge_r2 : List Cond := [Cond.instanceMethod yX1_bargeAt, Cond.selects RX1 yX1_bargeAt yX1_bargeAt, Cond.code yX1_bargeAt cX1_bargeAt 3 (some (.object "StakeWeirs$Barge")), Cond.fieldLink RX1 27 "StakeWeirs$Estuary" "barges" "[LStakeWeirs$Barge;", Cond.methodLink RX1 96 yX0_makeNew, Cond.instanceMethod yX0_makeNew, Cond.selects RX0 yX0_makeNew yX0_makeNew, Cond.initialized RX0, Cond.code yX0_makeNew cX0_makeNew 3 none, Cond.fieldLink RX0 9 "StakeWeirs$Barge" "ticket" "I", Cond.fieldLink RX0 15 "StakeWeirs$Barge" "wide" "I", Cond.fieldLink RX0 18 "StakeWeirs$Barge" "place" "I", Cond.fieldLink RX0 21 "StakeWeirs$Barge" "broken" "I"]
def wsL_barge : List Cond := .codeWith yL_barge cL_barge 4 (some .int) [(0, 9, 12, 13), (0, 9, 15, 15)] :: ((wsL_barge_r1 ++ wsL_barge_r2) ++ wsX30 ++ wsX10 ++ wsX00 ++ (vx_atS RX3 27 "java/lang/IllegalArgumentException" ["java/lang/RuntimeException", "java/lang/Exception"]).filter goodWord ++ (vx_atS RX3 38 "java/lang/IllegalStateException" ["java/lang/RuntimeException", "java/lang/Exception"]).filter goodWord)
def wsL_about_r1 : List Cond := [Cond.classLink RL 21 "java/lang/IndexOutOfBoundsException", Cond.methodLink RL 40 yX3_about, Cond.instanceMethod yX3_about, Cond.selects RX3 yX3_about yX3_about, Cond.initialized RX3, Cond.code yX3_about cX3_about 4 (some .int), Cond.classLink RX3 47 "java/lang/IndexOutOfBoundsException", Cond.initialized "java/lang/IndexOutOfBoundsException", Cond.fieldLink RX3 12 "StakeWeirs" "now" "LStakeWeirs$Estuary;", Cond.methodLink RX3 43 yX1_weirAt, Cond.instanceMethod yX1_weirAt, Cond.selects RX1 yX1_weirAt yX1_weirAt, Cond.initialized RX1, Cond.code yX1_weirAt cX1_weirAt 3 (some (.object "StakeWeirs$Weir")), Cond.fieldLink RX1 39 "StakeWeirs$Estuary" "weirCount" "I", Cond.fieldLink RX1 20 "StakeWeirs$Estuary" "weirs" "[LStakeWeirs$Weir;", Cond.methodLink RX3 19 yX3_isWithin, Cond.static yX3_isWithin, Cond.code yX3_isWithin cX3_isWithin 3 (some .boolean), Cond.methodLink RX3 118 yX2_fact, Cond.instanceMethod yX2_fact, Cond.selects RX2 yX2_fact yX2_fact, Cond.initialized RX2, Cond.code yX2_fact cX2_fact 2 (some .int)]
def wsL_about_r2 : List Cond := [Cond.fieldLink RX2 9 "StakeWeirs$Weir" "place" "I", Cond.fieldLink RX2 15 "StakeWeirs$Weir" "stakes" "I", Cond.fieldLink RX2 18 "StakeWeirs$Weir" "wattle" "I", Cond.fieldLink RX2 21 "StakeWeirs$Weir" "rent" "I", Cond.fieldLink RX2 24 "StakeWeirs$Weir" "coins" "I", Cond.fieldLink RX2 27 "StakeWeirs$Weir" "eels" "I", Cond.fieldLink RX2 30 "StakeWeirs$Weir" "open" "Z", Cond.fieldLink RX2 34 "StakeWeirs$Weir" "owed" "I"]
def wsL_about : List Cond := .codeWith yL_about cL_about 5 (some .int) [(0, 10, 13, 21)] :: ((wsL_about_r1 ++ wsL_about_r2) ++ wsX30 ++ wsX10 ++ wsX20 ++ (vx_atS RX3 51 "java/lang/IndexOutOfBoundsException" ["java/lang/RuntimeException", "java/lang/Exception"]).filter goodWord)
def wsL_told_r1 : List Cond := [Cond.classLink RL 21 "java/lang/IndexOutOfBoundsException", Cond.methodLink RL 43 yX3_told, Cond.instanceMethod yX3_told, Cond.selects RX3 yX3_told yX3_told, Cond.initialized RX3, Cond.code yX3_told cX3_told 4 (some .int), Cond.classLink RX3 47 "java/lang/IndexOutOfBoundsException", Cond.initialized "java/lang/IndexOutOfBoundsException", Cond.fieldLink RX3 12 "StakeWeirs" "now" "LStakeWeirs$Estuary;", Cond.methodLink RX3 121 yX1_bargeAt, Cond.instanceMethod yX1_bargeAt, Cond.selects RX1 yX1_bargeAt yX1_bargeAt, Cond.initialized RX1, Cond.code yX1_bargeAt cX1_bargeAt 3 (some (.object "StakeWeirs$Barge")), Cond.fieldLink RX1 51 "StakeWeirs$Estuary" "bargeCount" "I", Cond.fieldLink RX1 27 "StakeWeirs$Estuary" "barges" "[LStakeWeirs$Barge;", Cond.methodLink RX3 19 yX3_isWithin, Cond.static yX3_isWithin, Cond.code yX3_isWithin cX3_isWithin 3 (some .boolean), Cond.methodLink RX3 127 yX1_bargeFact, Cond.instanceMethod yX1_bargeFact, Cond.selects RX1 yX1_bargeFact yX1_bargeFact, Cond.code yX1_bargeFact cX1_bargeFact 3 (some .int), Cond.fieldLink RX1 120 "StakeWeirs$Barge" "wide" "I"]
def wsL_told_r2 : List Cond := [Cond.fieldLink RX1 123 "StakeWeirs$Barge" "place" "I", Cond.fieldLink RX1 124 "StakeWeirs$Barge" "broken" "I", Cond.methodLink RX1 127 yX1_nextInWay, Cond.instanceMethod yX1_nextInWay, Cond.selects RX1 yX1_nextInWay yX1_nextInWay, Cond.code yX1_nextInWay cX1_nextInWay 6 (some .int), Cond.fieldLink RX1 39 "StakeWeirs$Estuary" "weirCount" "I", Cond.fieldLink RX1 93 "StakeWeirs$Weir" "place" "I", Cond.methodLink RX1 43 yX1_weirAt, Cond.instanceMethod yX1_weirAt, Cond.selects RX1 yX1_weirAt yX1_weirAt, Cond.code yX1_weirAt cX1_weirAt 3 (some (.object "StakeWeirs$Weir")), Cond.fieldLink RX1 20 "StakeWeirs$Estuary" "weirs" "[LStakeWeirs$Weir;", Cond.methodLink RX1 141 yX2_isInWay, Cond.instanceMethod yX2_isInWay, Cond.selects RX2 yX2_isInWay yX2_isInWay, Cond.initialized RX2, Cond.code yX2_isInWay cX2_isInWay 2 (some .boolean), Cond.fieldLink RX2 15 "StakeWeirs$Weir" "stakes" "I", Cond.methodLink RX2 37 yX2_isFishing, Cond.instanceMethod yX2_isFishing, Cond.selects RX2 yX2_isFishing yX2_isFishing, Cond.code yX2_isFishing cX2_isFishing 1 (some .boolean), Cond.fieldLink RX2 34 "StakeWeirs$Weir" "owed" "I"]
def wsL_told_r3 : List Cond := [Cond.fieldLink RX2 30 "StakeWeirs$Weir" "open" "Z"]
def wsL_told : List Cond := .codeWith yL_told cL_told 5 (some .int) [(0, 10, 13, 21)] :: ((wsL_told_r1 ++ (wsL_told_r2 ++ wsL_told_r3)) ++ wsX30 ++ wsX10 ++ wsX00 ++ wsX20 ++ (vx_atS RX3 51 "java/lang/IndexOutOfBoundsException" ["java/lang/RuntimeException", "java/lang/Exception"]).filter goodWord)
def wsL_count_r1 : List Cond := [Cond.classLink RL 21 "java/lang/IndexOutOfBoundsException", Cond.methodLink RL 46 yX3_count, Cond.instanceMethod yX3_count, Cond.selects RX3 yX3_count yX3_count, Cond.initialized RX3, Cond.code yX3_count cX3_count 2 (some .int), Cond.classLink RX3 47 "java/lang/IndexOutOfBoundsException", Cond.initialized "java/lang/IndexOutOfBoundsException", Cond.fieldLink RX3 12 "StakeWeirs" "now" "LStakeWeirs$Estuary;", Cond.methodLink RX3 19 yX3_isWithin, Cond.static yX3_isWithin, Cond.code yX3_isWithin cX3_isWithin 3 (some .boolean), Cond.methodLink RX3 133 yX1_fact, Cond.instanceMethod yX1_fact, Cond.selects RX1 yX1_fact yX1_fact, Cond.initialized RX1, Cond.code yX1_fact cX1_fact 2 (some .int), Cond.fieldLink RX1 62 "StakeWeirs$Estuary" "night" "I", Cond.fieldLink RX1 39 "StakeWeirs$Estuary" "weirCount" "I", Cond.fieldLink RX1 51 "StakeWeirs$Estuary" "bargeCount" "I", Cond.fieldLink RX1 65 "StakeWeirs$Estuary" "arrived" "I", Cond.fieldLink RX1 68 "StakeWeirs$Estuary" "fines" "I", Cond.fieldLink RX1 71 "StakeWeirs$Estuary" "rents" "I", Cond.methodLink RX1 107 yX1_moon]
def wsL_count_r2 : List Cond := [Cond.instanceMethod yX1_moon, Cond.selects RX1 yX1_moon yX1_moon, Cond.code yX1_moon cX1_moon 2 (some .int), Cond.methodLink RX1 101 yJ9_floorMod_7cf53, Cond.static yJ9_floorMod_7cf53, Cond.initialized RJ9, Cond.code yJ9_floorMod_7cf53 cJ9_floorMod_7cf53 3 (some .int), Cond.methodLink RX1 111 yX1_run, Cond.instanceMethod yX1_run, Cond.selects RX1 yX1_run yX1_run, Cond.code yX1_run cX1_run 3 (some .int), Cond.methodLink RX1 32 yX1_tableEels, Cond.instanceMethod yX1_tableEels, Cond.selects RX1 yX1_tableEels yX1_tableEels, Cond.code yX1_tableEels cX1_tableEels 2 (some .int), Cond.fieldLink RX1 9 "StakeWeirs$Estuary" "table" "[I", Cond.methodLink RX1 114 yX1_heldWeirs, Cond.instanceMethod yX1_heldWeirs, Cond.selects RX1 yX1_heldWeirs yX1_heldWeirs, Cond.code yX1_heldWeirs cX1_heldWeirs 4 (some .int), Cond.methodLink RX1 43 yX1_weirAt, Cond.instanceMethod yX1_weirAt, Cond.selects RX1 yX1_weirAt yX1_weirAt, Cond.code yX1_weirAt cX1_weirAt 3 (some (.object "StakeWeirs$Weir"))]
def wsL_count_r3 : List Cond := [Cond.fieldLink RX1 20 "StakeWeirs$Estuary" "weirs" "[LStakeWeirs$Weir;", Cond.methodLink RX1 131 yX2_isHeld, Cond.instanceMethod yX2_isHeld, Cond.selects RX2 yX2_isHeld yX2_isHeld, Cond.initialized RX2, Cond.code yX2_isHeld cX2_isHeld 1 (some .boolean), Cond.fieldLink RX2 34 "StakeWeirs$Weir" "owed" "I", Cond.methodLink RX1 117 yX1_allEels, Cond.instanceMethod yX1_allEels, Cond.selects RX1 yX1_allEels yX1_allEels, Cond.code yX1_allEels cX1_allEels 4 (some .int), Cond.fieldLink RX1 138 "StakeWeirs$Weir" "eels" "I"]
def wsL_count : List Cond := .codeWith yL_count cL_count 4 (some .int) [(0, 9, 12, 21)] :: ((wsL_count_r1 ++ (wsL_count_r2 ++ wsL_count_r3)) ++ wsX30 ++ wsX10 ++ wsX20 ++ (vx_atS RX3 51 "java/lang/IndexOutOfBoundsException" ["java/lang/RuntimeException", "java/lang/Exception"]).filter goodWord)
def wsL_hinders_r1 : List Cond := [Cond.classLink RL 13 "java/lang/IllegalArgumentException", Cond.methodLink RL 49 yX3_hinders, Cond.instanceMethod yX3_hinders, Cond.selects RX3 yX3_hinders yX3_hinders, Cond.initialized RX3, Cond.code yX3_hinders cX3_hinders 2 (some .int), Cond.classLink RX3 23 "java/lang/IllegalArgumentException", Cond.initialized "java/lang/IllegalArgumentException", Cond.fieldLink RX3 12 "StakeWeirs" "now" "LStakeWeirs$Estuary;", Cond.methodLink RX3 19 yX3_isWithin, Cond.static yX3_isWithin, Cond.code yX3_isWithin cX3_isWithin 3 (some .boolean), Cond.methodLink RX3 134 yX1_weirsInWay, Cond.instanceMethod yX1_weirsInWay, Cond.selects RX1 yX1_weirsInWay yX1_weirsInWay, Cond.initialized RX1, Cond.code yX1_weirsInWay cX1_weirsInWay 5 (some .int), Cond.fieldLink RX1 39 "StakeWeirs$Estuary" "weirCount" "I", Cond.methodLink RX1 43 yX1_weirAt, Cond.instanceMethod yX1_weirAt, Cond.selects RX1 yX1_weirAt yX1_weirAt, Cond.code yX1_weirAt cX1_weirAt 3 (some (.object "StakeWeirs$Weir")), Cond.fieldLink RX1 20 "StakeWeirs$Estuary" "weirs" "[LStakeWeirs$Weir;", Cond.methodLink RX1 141 yX2_isInWay]
def wsL_hinders_r2 : List Cond := [Cond.instanceMethod yX2_isInWay, Cond.selects RX2 yX2_isInWay yX2_isInWay, Cond.initialized RX2, Cond.code yX2_isInWay cX2_isInWay 2 (some .boolean), Cond.fieldLink RX2 15 "StakeWeirs$Weir" "stakes" "I", Cond.methodLink RX2 37 yX2_isFishing, Cond.instanceMethod yX2_isFishing, Cond.selects RX2 yX2_isFishing yX2_isFishing, Cond.code yX2_isFishing cX2_isFishing 1 (some .boolean), Cond.fieldLink RX2 34 "StakeWeirs$Weir" "owed" "I", Cond.fieldLink RX2 30 "StakeWeirs$Weir" "open" "Z"]
def wsL_hinders : List Cond := .codeWith yL_hinders cL_hinders 4 (some .int) [(0, 9, 12, 13)] :: ((wsL_hinders_r1 ++ wsL_hinders_r2) ++ wsX30 ++ wsX10 ++ wsX20 ++ (vx_atS RX3 27 "java/lang/IllegalArgumentException" ["java/lang/RuntimeException", "java/lang/Exception"]).filter goodWord)
def wsL_pass_r1 : List Cond := [Cond.classLink RL 13 "java/lang/IllegalArgumentException", Cond.methodLink RL 52 yX3_pass, Cond.instanceMethod yX3_pass, Cond.selects RX3 yX3_pass yX3_pass, Cond.initialized RX3, Cond.code yX3_pass cX3_pass 3 (some .int), Cond.classLink RX3 23 "java/lang/IllegalArgumentException", Cond.initialized "java/lang/IllegalArgumentException", Cond.fieldLink RX3 12 "StakeWeirs" "now" "LStakeWeirs$Estuary;", Cond.fieldLink RX3 142 "StakeWeirs$Estuary" "arrived" "I", Cond.methodLink RX3 19 yX3_isWithin, Cond.static yX3_isWithin, Cond.code yX3_isWithin cX3_isWithin 3 (some .boolean), Cond.methodLink RX3 145 yX1_goThroughNights, Cond.instanceMethod yX1_goThroughNights, Cond.selects RX1 yX1_goThroughNights yX1_goThroughNights, Cond.initialized RX1, Cond.code yX1_goThroughNights cX1_goThroughNights 3 none, Cond.fieldLink RX1 62 "StakeWeirs$Estuary" "night" "I", Cond.methodLink RX1 148 yX1_catchEels, Cond.instanceMethod yX1_catchEels, Cond.selects RX1 yX1_catchEels yX1_catchEels, Cond.code yX1_catchEels cX1_catchEels 4 none, Cond.fieldLink RX1 39 "StakeWeirs$Estuary" "weirCount" "I"]
def wsL_pass_r2 : List Cond := [Cond.methodLink RX1 111 yX1_run, Cond.instanceMethod yX1_run, Cond.selects RX1 yX1_run yX1_run, Cond.code yX1_run cX1_run 3 (some .int), Cond.methodLink RX1 101 yJ9_floorMod_7cf53, Cond.static yJ9_floorMod_7cf53, Cond.initialized RJ9, Cond.code yJ9_floorMod_7cf53 cJ9_floorMod_7cf53 3 (some .int), Cond.methodLink RX1 32 yX1_tableEels, Cond.instanceMethod yX1_tableEels, Cond.selects RX1 yX1_tableEels yX1_tableEels, Cond.code yX1_tableEels cX1_tableEels 2 (some .int), Cond.fieldLink RX1 9 "StakeWeirs$Estuary" "table" "[I", Cond.methodLink RX1 107 yX1_moon, Cond.instanceMethod yX1_moon, Cond.selects RX1 yX1_moon yX1_moon, Cond.code yX1_moon cX1_moon 2 (some .int), Cond.methodLink RX1 36 yX1_inOrder, Cond.instanceMethod yX1_inOrder, Cond.selects RX1 yX1_inOrder yX1_inOrder, Cond.code yX1_inOrder cX1_inOrder 2 (some .int), Cond.fieldLink RX1 15 "StakeWeirs$Estuary" "order" "[I", Cond.methodLink RX1 43 yX1_weirAt, Cond.instanceMethod yX1_weirAt]
def wsL_pass_r3 : List Cond := [Cond.selects RX1 yX1_weirAt yX1_weirAt, Cond.code yX1_weirAt cX1_weirAt 3 (some (.object "StakeWeirs$Weir")), Cond.fieldLink RX1 20 "StakeWeirs$Estuary" "weirs" "[LStakeWeirs$Weir;", Cond.methodLink RX1 163 yX2_isFishing, Cond.instanceMethod yX2_isFishing, Cond.selects RX2 yX2_isFishing yX2_isFishing, Cond.initialized RX2, Cond.code yX2_isFishing cX2_isFishing 1 (some .boolean), Cond.fieldLink RX2 34 "StakeWeirs$Weir" "owed" "I", Cond.fieldLink RX2 30 "StakeWeirs$Weir" "open" "Z", Cond.methodLink RX1 166 yX2_catchOf, Cond.instanceMethod yX2_catchOf, Cond.selects RX2 yX2_catchOf yX2_catchOf, Cond.code yX2_catchOf cX2_catchOf 3 (some .int), Cond.fieldLink RX2 15 "StakeWeirs$Weir" "stakes" "I", Cond.fieldLink RX2 18 "StakeWeirs$Weir" "wattle" "I", Cond.fieldLink RX2 27 "StakeWeirs$Weir" "eels" "I", Cond.methodLink RX2 41 Lib.Math.min.name, Cond.static Lib.Math.min.name, Cond.initialized "java/lang/Math", Cond.code Lib.Math.min.name Lib.Math.min.code 2 (some .int), Cond.methodLink RX1 151 yX1_moveBarges, Cond.instanceMethod yX1_moveBarges, Cond.selects RX1 yX1_moveBarges yX1_moveBarges]
def wsL_pass_r4 : List Cond := [Cond.code yX1_moveBarges cX1_moveBarges 4 none, Cond.fieldLink RX1 51 "StakeWeirs$Estuary" "bargeCount" "I", Cond.fieldLink RX1 93 "StakeWeirs$Weir" "place" "I", Cond.methodLink RX1 54 yX1_bargeAt, Cond.instanceMethod yX1_bargeAt, Cond.selects RX1 yX1_bargeAt yX1_bargeAt, Cond.code yX1_bargeAt cX1_bargeAt 3 (some (.object "StakeWeirs$Barge")), Cond.fieldLink RX1 27 "StakeWeirs$Estuary" "barges" "[LStakeWeirs$Barge;", Cond.methodLink RX1 127 yX1_nextInWay, Cond.instanceMethod yX1_nextInWay, Cond.selects RX1 yX1_nextInWay yX1_nextInWay, Cond.code yX1_nextInWay cX1_nextInWay 6 (some .int), Cond.fieldLink RX1 123 "StakeWeirs$Barge" "place" "I", Cond.fieldLink RX1 120 "StakeWeirs$Barge" "wide" "I", Cond.methodLink RX1 141 yX2_isInWay, Cond.instanceMethod yX2_isInWay, Cond.selects RX2 yX2_isInWay yX2_isInWay, Cond.code yX2_isInWay cX2_isInWay 2 (some .boolean), Cond.methodLink RX2 37 yX2_isFishing, Cond.methodLink RX1 169 yX0_goOn, Cond.instanceMethod yX0_goOn, Cond.selects RX0 yX0_goOn yX0_goOn, Cond.initialized RX0, Cond.code yX0_goOn cX0_goOn 2 none]
def wsL_pass_r5 : List Cond := [Cond.fieldLink RX0 18 "StakeWeirs$Barge" "place" "I", Cond.methodLink RX0 24 Lib.Math.min.name, Cond.methodLink RX1 173 yX1_breakThrough, Cond.instanceMethod yX1_breakThrough, Cond.selects RX1 yX1_breakThrough yX1_breakThrough, Cond.code yX1_breakThrough cX1_breakThrough 4 none, Cond.fieldLink RX1 68 "StakeWeirs$Estuary" "fines" "I", Cond.fieldLink RX1 124 "StakeWeirs$Barge" "broken" "I", Cond.methodLink RX1 176 yX2_breakFor, Cond.instanceMethod yX2_breakFor, Cond.selects RX2 yX2_breakFor yX2_breakFor, Cond.code yX2_breakFor cX2_breakFor 3 (some .int), Cond.fieldLink RX2 24 "StakeWeirs$Weir" "coins" "I", Cond.methodLink RX2 47 yX2_loseWattle, Cond.instanceMethod yX2_loseWattle, Cond.selects RX2 yX2_loseWattle yX2_loseWattle, Cond.code yX2_loseWattle cX2_loseWattle 2 none, Cond.methodLink RX1 154 yX1_leaveOutArrived, Cond.instanceMethod yX1_leaveOutArrived, Cond.selects RX1 yX1_leaveOutArrived yX1_leaveOutArrived, Cond.code yX1_leaveOutArrived cX1_leaveOutArrived 4 none, Cond.fieldLink RX1 65 "StakeWeirs$Estuary" "arrived" "I", Cond.methodLink RX1 58 yX1_copyBarge, Cond.static yX1_copyBarge]
def wsL_pass_r6 : List Cond := [Cond.code yX1_copyBarge cX1_copyBarge 2 none, Cond.methodLink RX1 78 yX0_copyFrom, Cond.instanceMethod yX0_copyFrom, Cond.selects RX0 yX0_copyFrom yX0_copyFrom, Cond.code yX0_copyFrom cX0_copyFrom 2 none, Cond.fieldLink RX0 9 "StakeWeirs$Barge" "ticket" "I", Cond.fieldLink RX0 15 "StakeWeirs$Barge" "wide" "I", Cond.fieldLink RX0 21 "StakeWeirs$Barge" "broken" "I", Cond.methodLink RX1 157 yX1_rotWattle, Cond.instanceMethod yX1_rotWattle, Cond.selects RX1 yX1_rotWattle yX1_rotWattle, Cond.code yX1_rotWattle cX1_rotWattle 4 none, Cond.methodLink RX1 131 yX2_isHeld, Cond.instanceMethod yX2_isHeld, Cond.selects RX2 yX2_isHeld yX2_isHeld, Cond.code yX2_isHeld cX2_isHeld 1 (some .boolean), Cond.methodLink RX1 179 yX2_loseWattle, Cond.methodLink RX1 160 yX1_collectRents, Cond.instanceMethod yX1_collectRents, Cond.selects RX1 yX1_collectRents yX1_collectRents, Cond.code yX1_collectRents cX1_collectRents 3 none, Cond.fieldLink RX1 71 "StakeWeirs$Estuary" "rents" "I", Cond.methodLink RX1 182 yX2_payRent, Cond.instanceMethod yX2_payRent]
def wsL_pass_r7 : List Cond := [Cond.selects RX2 yX2_payRent yX2_payRent, Cond.code yX2_payRent cX2_payRent 1 (some .int), Cond.fieldLink RX2 21 "StakeWeirs$Weir" "rent" "I"]
def wsL_pass : List Cond := .codeWith yL_pass cL_pass 4 (some .int) [(0, 9, 12, 13)] :: ((wsL_pass_r1 ++ (wsL_pass_r2 ++ (wsL_pass_r3 ++ (wsL_pass_r4 ++ (wsL_pass_r5 ++ (wsL_pass_r6 ++ wsL_pass_r7)))))) ++ wsX30 ++ wsX10 ++ wsX20 ++ wsX00 ++ (vx_atS RX3 27 "java/lang/IllegalArgumentException" ["java/lang/RuntimeException", "java/lang/Exception"]).filter goodWord)
def wsL_catches_r1 : List Cond := [Cond.classLink RL 21 "java/lang/IndexOutOfBoundsException", Cond.methodLink RL 55 yX3_catches, Cond.instanceMethod yX3_catches, Cond.selects RX3 yX3_catches yX3_catches, Cond.initialized RX3, Cond.code yX3_catches cX3_catches 4 (some .int), Cond.classLink RX3 47 "java/lang/IndexOutOfBoundsException", Cond.initialized "java/lang/IndexOutOfBoundsException", Cond.fieldLink RX3 12 "StakeWeirs" "now" "LStakeWeirs$Estuary;", Cond.fieldLink RX3 16 "StakeWeirs" "trial" "LStakeWeirs$Estuary;", Cond.fieldLink RX3 81 "StakeWeirs$Weir" "eels" "I", Cond.methodLink RX3 43 yX1_weirAt, Cond.instanceMethod yX1_weirAt, Cond.selects RX1 yX1_weirAt yX1_weirAt, Cond.initialized RX1, Cond.code yX1_weirAt cX1_weirAt 3 (some (.object "StakeWeirs$Weir")), Cond.fieldLink RX1 39 "StakeWeirs$Estuary" "weirCount" "I", Cond.fieldLink RX1 20 "StakeWeirs$Estuary" "weirs" "[LStakeWeirs$Weir;", Cond.methodLink RX3 149 yX1_copyFrom, Cond.instanceMethod yX1_copyFrom, Cond.selects RX1 yX1_copyFrom yX1_copyFrom, Cond.code yX1_copyFrom cX1_copyFrom 3 none, Cond.fieldLink RX1 9 "StakeWeirs$Estuary" "table" "[I", Cond.fieldLink RX1 15 "StakeWeirs$Estuary" "order" "[I"]
def wsL_catches_r2 : List Cond := [Cond.fieldLink RX1 51 "StakeWeirs$Estuary" "bargeCount" "I", Cond.fieldLink RX1 62 "StakeWeirs$Estuary" "night" "I", Cond.fieldLink RX1 65 "StakeWeirs$Estuary" "arrived" "I", Cond.fieldLink RX1 68 "StakeWeirs$Estuary" "fines" "I", Cond.fieldLink RX1 71 "StakeWeirs$Estuary" "rents" "I", Cond.methodLink RX1 32 yX1_tableEels, Cond.instanceMethod yX1_tableEels, Cond.selects RX1 yX1_tableEels yX1_tableEels, Cond.code yX1_tableEels cX1_tableEels 2 (some .int), Cond.methodLink RX1 36 yX1_inOrder, Cond.instanceMethod yX1_inOrder, Cond.selects RX1 yX1_inOrder yX1_inOrder, Cond.code yX1_inOrder cX1_inOrder 2 (some .int), Cond.methodLink RX1 43 yX1_weirAt, Cond.methodLink RX1 47 yX1_copyWeir, Cond.static yX1_copyWeir, Cond.code yX1_copyWeir cX1_copyWeir 2 none, Cond.methodLink RX1 74 yX2_copyFrom, Cond.instanceMethod yX2_copyFrom, Cond.selects RX2 yX2_copyFrom yX2_copyFrom, Cond.initialized RX2, Cond.code yX2_copyFrom cX2_copyFrom 2 none, Cond.fieldLink RX2 9 "StakeWeirs$Weir" "place" "I", Cond.fieldLink RX2 15 "StakeWeirs$Weir" "stakes" "I"]
def wsL_catches_r3 : List Cond := [Cond.fieldLink RX2 18 "StakeWeirs$Weir" "wattle" "I", Cond.fieldLink RX2 21 "StakeWeirs$Weir" "rent" "I", Cond.fieldLink RX2 24 "StakeWeirs$Weir" "coins" "I", Cond.fieldLink RX2 27 "StakeWeirs$Weir" "eels" "I", Cond.fieldLink RX2 30 "StakeWeirs$Weir" "open" "Z", Cond.fieldLink RX2 34 "StakeWeirs$Weir" "owed" "I", Cond.methodLink RX1 54 yX1_bargeAt, Cond.instanceMethod yX1_bargeAt, Cond.selects RX1 yX1_bargeAt yX1_bargeAt, Cond.code yX1_bargeAt cX1_bargeAt 3 (some (.object "StakeWeirs$Barge")), Cond.fieldLink RX1 27 "StakeWeirs$Estuary" "barges" "[LStakeWeirs$Barge;", Cond.methodLink RX1 58 yX1_copyBarge, Cond.static yX1_copyBarge, Cond.code yX1_copyBarge cX1_copyBarge 2 none, Cond.methodLink RX1 78 yX0_copyFrom, Cond.instanceMethod yX0_copyFrom, Cond.selects RX0 yX0_copyFrom yX0_copyFrom, Cond.initialized RX0, Cond.code yX0_copyFrom cX0_copyFrom 2 none, Cond.fieldLink RX0 9 "StakeWeirs$Barge" "ticket" "I", Cond.fieldLink RX0 15 "StakeWeirs$Barge" "wide" "I", Cond.fieldLink RX0 18 "StakeWeirs$Barge" "place" "I", Cond.fieldLink RX0 21 "StakeWeirs$Barge" "broken" "I", Cond.methodLink RX3 153 yX1_catchEels]
def wsL_catches_r4 : List Cond := [Cond.instanceMethod yX1_catchEels, Cond.selects RX1 yX1_catchEels yX1_catchEels, Cond.code yX1_catchEels cX1_catchEels 4 none, Cond.methodLink RX1 111 yX1_run, Cond.instanceMethod yX1_run, Cond.selects RX1 yX1_run yX1_run, Cond.code yX1_run cX1_run 3 (some .int), Cond.methodLink RX1 101 yJ9_floorMod_7cf53, Cond.static yJ9_floorMod_7cf53, Cond.initialized RJ9, Cond.code yJ9_floorMod_7cf53 cJ9_floorMod_7cf53 3 (some .int), Cond.methodLink RX1 107 yX1_moon, Cond.instanceMethod yX1_moon, Cond.selects RX1 yX1_moon yX1_moon, Cond.code yX1_moon cX1_moon 2 (some .int), Cond.methodLink RX1 163 yX2_isFishing, Cond.instanceMethod yX2_isFishing, Cond.selects RX2 yX2_isFishing yX2_isFishing, Cond.code yX2_isFishing cX2_isFishing 1 (some .boolean), Cond.methodLink RX1 166 yX2_catchOf, Cond.instanceMethod yX2_catchOf, Cond.selects RX2 yX2_catchOf yX2_catchOf, Cond.code yX2_catchOf cX2_catchOf 3 (some .int), Cond.methodLink RX2 41 Lib.Math.min.name]
def wsL_catches_r5 : List Cond := [Cond.static Lib.Math.min.name, Cond.initialized "java/lang/Math", Cond.code Lib.Math.min.name Lib.Math.min.code 2 (some .int)]
def wsL_catches : List Cond := .codeWith yL_catches cL_catches 4 (some .int) [(0, 9, 12, 21)] :: ((wsL_catches_r1 ++ (wsL_catches_r2 ++ (wsL_catches_r3 ++ (wsL_catches_r4 ++ wsL_catches_r5)))) ++ wsX30 ++ wsX20 ++ wsX10 ++ wsX00 ++ (vx_atS RX3 51 "java/lang/IndexOutOfBoundsException" ["java/lang/RuntimeException", "java/lang/Exception"]).filter goodWord)
def wsL_arrives_r1 : List Cond := [Cond.classLink RL 21 "java/lang/IndexOutOfBoundsException", Cond.methodLink RL 58 yX3_arrives, Cond.instanceMethod yX3_arrives, Cond.selects RX3 yX3_arrives yX3_arrives, Cond.initialized RX3, Cond.code yX3_arrives cX3_arrives 4 (some .int), Cond.classLink RX3 47 "java/lang/IndexOutOfBoundsException", Cond.initialized "java/lang/IndexOutOfBoundsException", Cond.fieldLink RX3 12 "StakeWeirs" "now" "LStakeWeirs$Estuary;", Cond.fieldLink RX3 16 "StakeWeirs" "trial" "LStakeWeirs$Estuary;", Cond.fieldLink RX3 158 "StakeWeirs$Barge" "ticket" "I", Cond.methodLink RX3 121 yX1_bargeAt, Cond.instanceMethod yX1_bargeAt, Cond.selects RX1 yX1_bargeAt yX1_bargeAt, Cond.initialized RX1, Cond.code yX1_bargeAt cX1_bargeAt 3 (some (.object "StakeWeirs$Barge")), Cond.fieldLink RX1 51 "StakeWeirs$Estuary" "bargeCount" "I", Cond.fieldLink RX1 27 "StakeWeirs$Estuary" "barges" "[LStakeWeirs$Barge;", Cond.methodLink RX3 149 yX1_copyFrom, Cond.instanceMethod yX1_copyFrom, Cond.selects RX1 yX1_copyFrom yX1_copyFrom, Cond.code yX1_copyFrom cX1_copyFrom 3 none, Cond.fieldLink RX1 9 "StakeWeirs$Estuary" "table" "[I", Cond.fieldLink RX1 15 "StakeWeirs$Estuary" "order" "[I"]
def wsL_arrives_r2 : List Cond := [Cond.fieldLink RX1 39 "StakeWeirs$Estuary" "weirCount" "I", Cond.fieldLink RX1 62 "StakeWeirs$Estuary" "night" "I", Cond.fieldLink RX1 65 "StakeWeirs$Estuary" "arrived" "I", Cond.fieldLink RX1 68 "StakeWeirs$Estuary" "fines" "I", Cond.fieldLink RX1 71 "StakeWeirs$Estuary" "rents" "I", Cond.methodLink RX1 32 yX1_tableEels, Cond.instanceMethod yX1_tableEels, Cond.selects RX1 yX1_tableEels yX1_tableEels, Cond.code yX1_tableEels cX1_tableEels 2 (some .int), Cond.methodLink RX1 36 yX1_inOrder, Cond.instanceMethod yX1_inOrder, Cond.selects RX1 yX1_inOrder yX1_inOrder, Cond.code yX1_inOrder cX1_inOrder 2 (some .int), Cond.methodLink RX1 43 yX1_weirAt, Cond.instanceMethod yX1_weirAt, Cond.selects RX1 yX1_weirAt yX1_weirAt, Cond.code yX1_weirAt cX1_weirAt 3 (some (.object "StakeWeirs$Weir")), Cond.fieldLink RX1 20 "StakeWeirs$Estuary" "weirs" "[LStakeWeirs$Weir;", Cond.methodLink RX1 47 yX1_copyWeir, Cond.static yX1_copyWeir, Cond.code yX1_copyWeir cX1_copyWeir 2 none, Cond.methodLink RX1 74 yX2_copyFrom, Cond.instanceMethod yX2_copyFrom, Cond.selects RX2 yX2_copyFrom yX2_copyFrom]
def wsL_arrives_r3 : List Cond := [Cond.initialized RX2, Cond.code yX2_copyFrom cX2_copyFrom 2 none, Cond.fieldLink RX2 9 "StakeWeirs$Weir" "place" "I", Cond.fieldLink RX2 15 "StakeWeirs$Weir" "stakes" "I", Cond.fieldLink RX2 18 "StakeWeirs$Weir" "wattle" "I", Cond.fieldLink RX2 21 "StakeWeirs$Weir" "rent" "I", Cond.fieldLink RX2 24 "StakeWeirs$Weir" "coins" "I", Cond.fieldLink RX2 27 "StakeWeirs$Weir" "eels" "I", Cond.fieldLink RX2 30 "StakeWeirs$Weir" "open" "Z", Cond.fieldLink RX2 34 "StakeWeirs$Weir" "owed" "I", Cond.methodLink RX1 54 yX1_bargeAt, Cond.methodLink RX1 58 yX1_copyBarge, Cond.static yX1_copyBarge, Cond.code yX1_copyBarge cX1_copyBarge 2 none, Cond.methodLink RX1 78 yX0_copyFrom, Cond.instanceMethod yX0_copyFrom, Cond.selects RX0 yX0_copyFrom yX0_copyFrom, Cond.initialized RX0, Cond.code yX0_copyFrom cX0_copyFrom 2 none, Cond.fieldLink RX0 9 "StakeWeirs$Barge" "ticket" "I", Cond.fieldLink RX0 15 "StakeWeirs$Barge" "wide" "I", Cond.fieldLink RX0 18 "StakeWeirs$Barge" "place" "I", Cond.fieldLink RX0 21 "StakeWeirs$Barge" "broken" "I", Cond.methodLink RX3 163 yX1_isUnderWay]
def wsL_arrives_r4 : List Cond := [Cond.instanceMethod yX1_isUnderWay, Cond.selects RX1 yX1_isUnderWay yX1_isUnderWay, Cond.code yX1_isUnderWay cX1_isUnderWay 4 (some .boolean), Cond.fieldLink RX1 98 "StakeWeirs$Barge" "ticket" "I", Cond.methodLink RX3 145 yX1_goThroughNights, Cond.instanceMethod yX1_goThroughNights, Cond.selects RX1 yX1_goThroughNights yX1_goThroughNights, Cond.code yX1_goThroughNights cX1_goThroughNights 3 none, Cond.methodLink RX1 148 yX1_catchEels, Cond.instanceMethod yX1_catchEels, Cond.selects RX1 yX1_catchEels yX1_catchEels, Cond.code yX1_catchEels cX1_catchEels 4 none, Cond.methodLink RX1 111 yX1_run, Cond.instanceMethod yX1_run, Cond.selects RX1 yX1_run yX1_run, Cond.code yX1_run cX1_run 3 (some .int), Cond.methodLink RX1 101 yJ9_floorMod_7cf53, Cond.static yJ9_floorMod_7cf53, Cond.initialized RJ9, Cond.code yJ9_floorMod_7cf53 cJ9_floorMod_7cf53 3 (some .int), Cond.methodLink RX1 107 yX1_moon, Cond.instanceMethod yX1_moon, Cond.selects RX1 yX1_moon yX1_moon, Cond.code yX1_moon cX1_moon 2 (some .int)]
def wsL_arrives_r5 : List Cond := [Cond.methodLink RX1 163 yX2_isFishing, Cond.instanceMethod yX2_isFishing, Cond.selects RX2 yX2_isFishing yX2_isFishing, Cond.code yX2_isFishing cX2_isFishing 1 (some .boolean), Cond.methodLink RX1 166 yX2_catchOf, Cond.instanceMethod yX2_catchOf, Cond.selects RX2 yX2_catchOf yX2_catchOf, Cond.code yX2_catchOf cX2_catchOf 3 (some .int), Cond.methodLink RX2 41 Lib.Math.min.name, Cond.static Lib.Math.min.name, Cond.initialized "java/lang/Math", Cond.code Lib.Math.min.name Lib.Math.min.code 2 (some .int), Cond.methodLink RX1 151 yX1_moveBarges, Cond.instanceMethod yX1_moveBarges, Cond.selects RX1 yX1_moveBarges yX1_moveBarges, Cond.code yX1_moveBarges cX1_moveBarges 4 none, Cond.fieldLink RX1 93 "StakeWeirs$Weir" "place" "I", Cond.methodLink RX1 127 yX1_nextInWay, Cond.instanceMethod yX1_nextInWay, Cond.selects RX1 yX1_nextInWay yX1_nextInWay, Cond.code yX1_nextInWay cX1_nextInWay 6 (some .int), Cond.fieldLink RX1 123 "StakeWeirs$Barge" "place" "I", Cond.fieldLink RX1 120 "StakeWeirs$Barge" "wide" "I", Cond.methodLink RX1 141 yX2_isInWay]
def wsL_arrives_r6 : List Cond := [Cond.instanceMethod yX2_isInWay, Cond.selects RX2 yX2_isInWay yX2_isInWay, Cond.code yX2_isInWay cX2_isInWay 2 (some .boolean), Cond.methodLink RX2 37 yX2_isFishing, Cond.methodLink RX1 169 yX0_goOn, Cond.instanceMethod yX0_goOn, Cond.selects RX0 yX0_goOn yX0_goOn, Cond.code yX0_goOn cX0_goOn 2 none, Cond.methodLink RX0 24 Lib.Math.min.name, Cond.methodLink RX1 173 yX1_breakThrough, Cond.instanceMethod yX1_breakThrough, Cond.selects RX1 yX1_breakThrough yX1_breakThrough, Cond.code yX1_breakThrough cX1_breakThrough 4 none, Cond.fieldLink RX1 124 "StakeWeirs$Barge" "broken" "I", Cond.methodLink RX1 176 yX2_breakFor, Cond.instanceMethod yX2_breakFor, Cond.selects RX2 yX2_breakFor yX2_breakFor, Cond.code yX2_breakFor cX2_breakFor 3 (some .int), Cond.methodLink RX2 47 yX2_loseWattle, Cond.instanceMethod yX2_loseWattle, Cond.selects RX2 yX2_loseWattle yX2_loseWattle, Cond.code yX2_loseWattle cX2_loseWattle 2 none, Cond.methodLink RX1 154 yX1_leaveOutArrived, Cond.instanceMethod yX1_leaveOutArrived]
def wsL_arrives_r7 : List Cond := [Cond.selects RX1 yX1_leaveOutArrived yX1_leaveOutArrived, Cond.code yX1_leaveOutArrived cX1_leaveOutArrived 4 none, Cond.methodLink RX1 157 yX1_rotWattle, Cond.instanceMethod yX1_rotWattle, Cond.selects RX1 yX1_rotWattle yX1_rotWattle, Cond.code yX1_rotWattle cX1_rotWattle 4 none, Cond.methodLink RX1 131 yX2_isHeld, Cond.instanceMethod yX2_isHeld, Cond.selects RX2 yX2_isHeld yX2_isHeld, Cond.code yX2_isHeld cX2_isHeld 1 (some .boolean), Cond.methodLink RX1 179 yX2_loseWattle, Cond.methodLink RX1 160 yX1_collectRents, Cond.instanceMethod yX1_collectRents, Cond.selects RX1 yX1_collectRents yX1_collectRents, Cond.code yX1_collectRents cX1_collectRents 3 none, Cond.methodLink RX1 182 yX2_payRent, Cond.instanceMethod yX2_payRent, Cond.selects RX2 yX2_payRent yX2_payRent, Cond.code yX2_payRent cX2_payRent 1 (some .int)]
def wsL_arrives : List Cond := .codeWith yL_arrives cL_arrives 4 (some .int) [(0, 9, 12, 21)] :: ((wsL_arrives_r1 ++ (wsL_arrives_r2 ++ (wsL_arrives_r3 ++ (wsL_arrives_r4 ++ (wsL_arrives_r5 ++ (wsL_arrives_r6 ++ wsL_arrives_r7)))))) ++ wsX30 ++ wsX00 ++ wsX10 ++ wsX20 ++ (vx_atS RX3 51 "java/lang/IndexOutOfBoundsException" ["java/lang/RuntimeException", "java/lang/Exception"]).filter goodWord)
def wsL_lasts_r1 : List Cond := [Cond.classLink RL 21 "java/lang/IndexOutOfBoundsException", Cond.methodLink RL 61 yX3_lasts, Cond.instanceMethod yX3_lasts, Cond.selects RX3 yX3_lasts yX3_lasts, Cond.initialized RX3, Cond.code yX3_lasts cX3_lasts 4 (some .int), Cond.classLink RX3 47 "java/lang/IndexOutOfBoundsException", Cond.initialized "java/lang/IndexOutOfBoundsException", Cond.fieldLink RX3 12 "StakeWeirs" "now" "LStakeWeirs$Estuary;", Cond.fieldLink RX3 16 "StakeWeirs" "trial" "LStakeWeirs$Estuary;", Cond.fieldLink RX3 66 "StakeWeirs$Weir" "wattle" "I", Cond.methodLink RX3 43 yX1_weirAt, Cond.instanceMethod yX1_weirAt, Cond.selects RX1 yX1_weirAt yX1_weirAt, Cond.initialized RX1, Cond.code yX1_weirAt cX1_weirAt 3 (some (.object "StakeWeirs$Weir")), Cond.fieldLink RX1 39 "StakeWeirs$Estuary" "weirCount" "I", Cond.fieldLink RX1 20 "StakeWeirs$Estuary" "weirs" "[LStakeWeirs$Weir;", Cond.methodLink RX3 149 yX1_copyFrom, Cond.instanceMethod yX1_copyFrom, Cond.selects RX1 yX1_copyFrom yX1_copyFrom, Cond.code yX1_copyFrom cX1_copyFrom 3 none, Cond.fieldLink RX1 9 "StakeWeirs$Estuary" "table" "[I", Cond.fieldLink RX1 15 "StakeWeirs$Estuary" "order" "[I"]
def wsL_lasts_r2 : List Cond := [Cond.fieldLink RX1 51 "StakeWeirs$Estuary" "bargeCount" "I", Cond.fieldLink RX1 62 "StakeWeirs$Estuary" "night" "I", Cond.fieldLink RX1 65 "StakeWeirs$Estuary" "arrived" "I", Cond.fieldLink RX1 68 "StakeWeirs$Estuary" "fines" "I", Cond.fieldLink RX1 71 "StakeWeirs$Estuary" "rents" "I", Cond.methodLink RX1 32 yX1_tableEels, Cond.instanceMethod yX1_tableEels, Cond.selects RX1 yX1_tableEels yX1_tableEels, Cond.code yX1_tableEels cX1_tableEels 2 (some .int), Cond.methodLink RX1 36 yX1_inOrder, Cond.instanceMethod yX1_inOrder, Cond.selects RX1 yX1_inOrder yX1_inOrder, Cond.code yX1_inOrder cX1_inOrder 2 (some .int), Cond.methodLink RX1 43 yX1_weirAt, Cond.methodLink RX1 47 yX1_copyWeir, Cond.static yX1_copyWeir, Cond.code yX1_copyWeir cX1_copyWeir 2 none, Cond.methodLink RX1 74 yX2_copyFrom, Cond.instanceMethod yX2_copyFrom, Cond.selects RX2 yX2_copyFrom yX2_copyFrom, Cond.initialized RX2, Cond.code yX2_copyFrom cX2_copyFrom 2 none, Cond.fieldLink RX2 9 "StakeWeirs$Weir" "place" "I", Cond.fieldLink RX2 15 "StakeWeirs$Weir" "stakes" "I"]
def wsL_lasts_r3 : List Cond := [Cond.fieldLink RX2 18 "StakeWeirs$Weir" "wattle" "I", Cond.fieldLink RX2 21 "StakeWeirs$Weir" "rent" "I", Cond.fieldLink RX2 24 "StakeWeirs$Weir" "coins" "I", Cond.fieldLink RX2 27 "StakeWeirs$Weir" "eels" "I", Cond.fieldLink RX2 30 "StakeWeirs$Weir" "open" "Z", Cond.fieldLink RX2 34 "StakeWeirs$Weir" "owed" "I", Cond.methodLink RX1 54 yX1_bargeAt, Cond.instanceMethod yX1_bargeAt, Cond.selects RX1 yX1_bargeAt yX1_bargeAt, Cond.code yX1_bargeAt cX1_bargeAt 3 (some (.object "StakeWeirs$Barge")), Cond.fieldLink RX1 27 "StakeWeirs$Estuary" "barges" "[LStakeWeirs$Barge;", Cond.methodLink RX1 58 yX1_copyBarge, Cond.static yX1_copyBarge, Cond.code yX1_copyBarge cX1_copyBarge 2 none, Cond.methodLink RX1 78 yX0_copyFrom, Cond.instanceMethod yX0_copyFrom, Cond.selects RX0 yX0_copyFrom yX0_copyFrom, Cond.initialized RX0, Cond.code yX0_copyFrom cX0_copyFrom 2 none, Cond.fieldLink RX0 9 "StakeWeirs$Barge" "ticket" "I", Cond.fieldLink RX0 15 "StakeWeirs$Barge" "wide" "I", Cond.fieldLink RX0 18 "StakeWeirs$Barge" "place" "I", Cond.fieldLink RX0 21 "StakeWeirs$Barge" "broken" "I", Cond.methodLink RX3 52 yX2_isHeld]
def wsL_lasts_r4 : List Cond := [Cond.instanceMethod yX2_isHeld, Cond.selects RX2 yX2_isHeld yX2_isHeld, Cond.code yX2_isHeld cX2_isHeld 1 (some .boolean), Cond.methodLink RX3 145 yX1_goThroughNights, Cond.instanceMethod yX1_goThroughNights, Cond.selects RX1 yX1_goThroughNights yX1_goThroughNights, Cond.code yX1_goThroughNights cX1_goThroughNights 3 none, Cond.methodLink RX1 148 yX1_catchEels, Cond.instanceMethod yX1_catchEels, Cond.selects RX1 yX1_catchEels yX1_catchEels, Cond.code yX1_catchEels cX1_catchEels 4 none, Cond.methodLink RX1 111 yX1_run, Cond.instanceMethod yX1_run, Cond.selects RX1 yX1_run yX1_run, Cond.code yX1_run cX1_run 3 (some .int), Cond.methodLink RX1 101 yJ9_floorMod_7cf53, Cond.static yJ9_floorMod_7cf53, Cond.initialized RJ9, Cond.code yJ9_floorMod_7cf53 cJ9_floorMod_7cf53 3 (some .int), Cond.methodLink RX1 107 yX1_moon, Cond.instanceMethod yX1_moon, Cond.selects RX1 yX1_moon yX1_moon, Cond.code yX1_moon cX1_moon 2 (some .int), Cond.methodLink RX1 163 yX2_isFishing]
def wsL_lasts_r5 : List Cond := [Cond.instanceMethod yX2_isFishing, Cond.selects RX2 yX2_isFishing yX2_isFishing, Cond.code yX2_isFishing cX2_isFishing 1 (some .boolean), Cond.methodLink RX1 166 yX2_catchOf, Cond.instanceMethod yX2_catchOf, Cond.selects RX2 yX2_catchOf yX2_catchOf, Cond.code yX2_catchOf cX2_catchOf 3 (some .int), Cond.methodLink RX2 41 Lib.Math.min.name, Cond.static Lib.Math.min.name, Cond.initialized "java/lang/Math", Cond.code Lib.Math.min.name Lib.Math.min.code 2 (some .int), Cond.methodLink RX1 151 yX1_moveBarges, Cond.instanceMethod yX1_moveBarges, Cond.selects RX1 yX1_moveBarges yX1_moveBarges, Cond.code yX1_moveBarges cX1_moveBarges 4 none, Cond.fieldLink RX1 93 "StakeWeirs$Weir" "place" "I", Cond.methodLink RX1 127 yX1_nextInWay, Cond.instanceMethod yX1_nextInWay, Cond.selects RX1 yX1_nextInWay yX1_nextInWay, Cond.code yX1_nextInWay cX1_nextInWay 6 (some .int), Cond.fieldLink RX1 123 "StakeWeirs$Barge" "place" "I", Cond.fieldLink RX1 120 "StakeWeirs$Barge" "wide" "I", Cond.methodLink RX1 141 yX2_isInWay, Cond.instanceMethod yX2_isInWay]
def wsL_lasts_r6 : List Cond := [Cond.selects RX2 yX2_isInWay yX2_isInWay, Cond.code yX2_isInWay cX2_isInWay 2 (some .boolean), Cond.methodLink RX2 37 yX2_isFishing, Cond.methodLink RX1 169 yX0_goOn, Cond.instanceMethod yX0_goOn, Cond.selects RX0 yX0_goOn yX0_goOn, Cond.code yX0_goOn cX0_goOn 2 none, Cond.methodLink RX0 24 Lib.Math.min.name, Cond.methodLink RX1 173 yX1_breakThrough, Cond.instanceMethod yX1_breakThrough, Cond.selects RX1 yX1_breakThrough yX1_breakThrough, Cond.code yX1_breakThrough cX1_breakThrough 4 none, Cond.fieldLink RX1 124 "StakeWeirs$Barge" "broken" "I", Cond.methodLink RX1 176 yX2_breakFor, Cond.instanceMethod yX2_breakFor, Cond.selects RX2 yX2_breakFor yX2_breakFor, Cond.code yX2_breakFor cX2_breakFor 3 (some .int), Cond.methodLink RX2 47 yX2_loseWattle, Cond.instanceMethod yX2_loseWattle, Cond.selects RX2 yX2_loseWattle yX2_loseWattle, Cond.code yX2_loseWattle cX2_loseWattle 2 none, Cond.methodLink RX1 154 yX1_leaveOutArrived, Cond.instanceMethod yX1_leaveOutArrived, Cond.selects RX1 yX1_leaveOutArrived yX1_leaveOutArrived]
def wsL_lasts_r7 : List Cond := [Cond.code yX1_leaveOutArrived cX1_leaveOutArrived 4 none, Cond.methodLink RX1 157 yX1_rotWattle, Cond.instanceMethod yX1_rotWattle, Cond.selects RX1 yX1_rotWattle yX1_rotWattle, Cond.code yX1_rotWattle cX1_rotWattle 4 none, Cond.methodLink RX1 131 yX2_isHeld, Cond.methodLink RX1 179 yX2_loseWattle, Cond.methodLink RX1 160 yX1_collectRents, Cond.instanceMethod yX1_collectRents, Cond.selects RX1 yX1_collectRents yX1_collectRents, Cond.code yX1_collectRents cX1_collectRents 3 none, Cond.methodLink RX1 182 yX2_payRent, Cond.instanceMethod yX2_payRent, Cond.selects RX2 yX2_payRent yX2_payRent, Cond.code yX2_payRent cX2_payRent 1 (some .int)]
def wsL_lasts : List Cond := .codeWith yL_lasts cL_lasts 4 (some .int) [(0, 9, 12, 21)] :: ((wsL_lasts_r1 ++ (wsL_lasts_r2 ++ (wsL_lasts_r3 ++ (wsL_lasts_r4 ++ (wsL_lasts_r5 ++ (wsL_lasts_r6 ++ wsL_lasts_r7)))))) ++ wsX30 ++ wsX20 ++ wsX10 ++ wsX00 ++ (vx_atS RX3 51 "java/lang/IndexOutOfBoundsException" ["java/lang/RuntimeException", "java/lang/Exception"]).filter goodWord)
def wsL_foresee_r1 : List Cond := [Cond.classLink RL 13 "java/lang/IllegalArgumentException", Cond.classLink RL 21 "java/lang/IndexOutOfBoundsException", Cond.methodLink RL 64 yX3_foresee, Cond.instanceMethod yX3_foresee, Cond.selects RX3 yX3_foresee yX3_foresee, Cond.initialized RX3, Cond.code yX3_foresee cX3_foresee 3 (some .int), Cond.classLink RX3 23 "java/lang/IllegalArgumentException", Cond.initialized "java/lang/IllegalArgumentException", Cond.classLink RX3 47 "java/lang/IndexOutOfBoundsException", Cond.initialized "java/lang/IndexOutOfBoundsException", Cond.fieldLink RX3 16 "StakeWeirs" "trial" "LStakeWeirs$Estuary;", Cond.fieldLink RX3 12 "StakeWeirs" "now" "LStakeWeirs$Estuary;", Cond.methodLink RX3 19 yX3_isWithin, Cond.static yX3_isWithin, Cond.code yX3_isWithin cX3_isWithin 3 (some .boolean), Cond.methodLink RX3 149 yX1_copyFrom, Cond.instanceMethod yX1_copyFrom, Cond.selects RX1 yX1_copyFrom yX1_copyFrom, Cond.initialized RX1, Cond.code yX1_copyFrom cX1_copyFrom 3 none, Cond.fieldLink RX1 9 "StakeWeirs$Estuary" "table" "[I", Cond.fieldLink RX1 15 "StakeWeirs$Estuary" "order" "[I", Cond.fieldLink RX1 39 "StakeWeirs$Estuary" "weirCount" "I"]
def wsL_foresee_r2 : List Cond := [Cond.fieldLink RX1 51 "StakeWeirs$Estuary" "bargeCount" "I", Cond.fieldLink RX1 62 "StakeWeirs$Estuary" "night" "I", Cond.fieldLink RX1 65 "StakeWeirs$Estuary" "arrived" "I", Cond.fieldLink RX1 68 "StakeWeirs$Estuary" "fines" "I", Cond.fieldLink RX1 71 "StakeWeirs$Estuary" "rents" "I", Cond.methodLink RX1 32 yX1_tableEels, Cond.instanceMethod yX1_tableEels, Cond.selects RX1 yX1_tableEels yX1_tableEels, Cond.code yX1_tableEels cX1_tableEels 2 (some .int), Cond.methodLink RX1 36 yX1_inOrder, Cond.instanceMethod yX1_inOrder, Cond.selects RX1 yX1_inOrder yX1_inOrder, Cond.code yX1_inOrder cX1_inOrder 2 (some .int), Cond.methodLink RX1 43 yX1_weirAt, Cond.instanceMethod yX1_weirAt, Cond.selects RX1 yX1_weirAt yX1_weirAt, Cond.code yX1_weirAt cX1_weirAt 3 (some (.object "StakeWeirs$Weir")), Cond.fieldLink RX1 20 "StakeWeirs$Estuary" "weirs" "[LStakeWeirs$Weir;", Cond.methodLink RX1 47 yX1_copyWeir, Cond.static yX1_copyWeir, Cond.code yX1_copyWeir cX1_copyWeir 2 none, Cond.methodLink RX1 74 yX2_copyFrom, Cond.instanceMethod yX2_copyFrom, Cond.selects RX2 yX2_copyFrom yX2_copyFrom]
def wsL_foresee_r3 : List Cond := [Cond.initialized RX2, Cond.code yX2_copyFrom cX2_copyFrom 2 none, Cond.fieldLink RX2 9 "StakeWeirs$Weir" "place" "I", Cond.fieldLink RX2 15 "StakeWeirs$Weir" "stakes" "I", Cond.fieldLink RX2 18 "StakeWeirs$Weir" "wattle" "I", Cond.fieldLink RX2 21 "StakeWeirs$Weir" "rent" "I", Cond.fieldLink RX2 24 "StakeWeirs$Weir" "coins" "I", Cond.fieldLink RX2 27 "StakeWeirs$Weir" "eels" "I", Cond.fieldLink RX2 30 "StakeWeirs$Weir" "open" "Z", Cond.fieldLink RX2 34 "StakeWeirs$Weir" "owed" "I", Cond.methodLink RX1 54 yX1_bargeAt, Cond.instanceMethod yX1_bargeAt, Cond.selects RX1 yX1_bargeAt yX1_bargeAt, Cond.code yX1_bargeAt cX1_bargeAt 3 (some (.object "StakeWeirs$Barge")), Cond.fieldLink RX1 27 "StakeWeirs$Estuary" "barges" "[LStakeWeirs$Barge;", Cond.methodLink RX1 58 yX1_copyBarge, Cond.static yX1_copyBarge, Cond.code yX1_copyBarge cX1_copyBarge 2 none, Cond.methodLink RX1 78 yX0_copyFrom, Cond.instanceMethod yX0_copyFrom, Cond.selects RX0 yX0_copyFrom yX0_copyFrom, Cond.initialized RX0, Cond.code yX0_copyFrom cX0_copyFrom 2 none, Cond.fieldLink RX0 9 "StakeWeirs$Barge" "ticket" "I"]
def wsL_foresee_r4 : List Cond := [Cond.fieldLink RX0 15 "StakeWeirs$Barge" "wide" "I", Cond.fieldLink RX0 18 "StakeWeirs$Barge" "place" "I", Cond.fieldLink RX0 21 "StakeWeirs$Barge" "broken" "I", Cond.methodLink RX3 145 yX1_goThroughNights, Cond.instanceMethod yX1_goThroughNights, Cond.selects RX1 yX1_goThroughNights yX1_goThroughNights, Cond.code yX1_goThroughNights cX1_goThroughNights 3 none, Cond.methodLink RX1 148 yX1_catchEels, Cond.instanceMethod yX1_catchEels, Cond.selects RX1 yX1_catchEels yX1_catchEels, Cond.code yX1_catchEels cX1_catchEels 4 none, Cond.methodLink RX1 111 yX1_run, Cond.instanceMethod yX1_run, Cond.selects RX1 yX1_run yX1_run, Cond.code yX1_run cX1_run 3 (some .int), Cond.methodLink RX1 101 yJ9_floorMod_7cf53, Cond.static yJ9_floorMod_7cf53, Cond.initialized RJ9, Cond.code yJ9_floorMod_7cf53 cJ9_floorMod_7cf53 3 (some .int), Cond.methodLink RX1 107 yX1_moon, Cond.instanceMethod yX1_moon, Cond.selects RX1 yX1_moon yX1_moon, Cond.code yX1_moon cX1_moon 2 (some .int), Cond.methodLink RX1 163 yX2_isFishing]
def wsL_foresee_r5 : List Cond := [Cond.instanceMethod yX2_isFishing, Cond.selects RX2 yX2_isFishing yX2_isFishing, Cond.code yX2_isFishing cX2_isFishing 1 (some .boolean), Cond.methodLink RX1 166 yX2_catchOf, Cond.instanceMethod yX2_catchOf, Cond.selects RX2 yX2_catchOf yX2_catchOf, Cond.code yX2_catchOf cX2_catchOf 3 (some .int), Cond.methodLink RX2 41 Lib.Math.min.name, Cond.static Lib.Math.min.name, Cond.initialized "java/lang/Math", Cond.code Lib.Math.min.name Lib.Math.min.code 2 (some .int), Cond.methodLink RX1 151 yX1_moveBarges, Cond.instanceMethod yX1_moveBarges, Cond.selects RX1 yX1_moveBarges yX1_moveBarges, Cond.code yX1_moveBarges cX1_moveBarges 4 none, Cond.fieldLink RX1 93 "StakeWeirs$Weir" "place" "I", Cond.methodLink RX1 127 yX1_nextInWay, Cond.instanceMethod yX1_nextInWay, Cond.selects RX1 yX1_nextInWay yX1_nextInWay, Cond.code yX1_nextInWay cX1_nextInWay 6 (some .int), Cond.fieldLink RX1 123 "StakeWeirs$Barge" "place" "I", Cond.fieldLink RX1 120 "StakeWeirs$Barge" "wide" "I", Cond.methodLink RX1 141 yX2_isInWay, Cond.instanceMethod yX2_isInWay]
def wsL_foresee_r6 : List Cond := [Cond.selects RX2 yX2_isInWay yX2_isInWay, Cond.code yX2_isInWay cX2_isInWay 2 (some .boolean), Cond.methodLink RX2 37 yX2_isFishing, Cond.methodLink RX1 169 yX0_goOn, Cond.instanceMethod yX0_goOn, Cond.selects RX0 yX0_goOn yX0_goOn, Cond.code yX0_goOn cX0_goOn 2 none, Cond.methodLink RX0 24 Lib.Math.min.name, Cond.methodLink RX1 173 yX1_breakThrough, Cond.instanceMethod yX1_breakThrough, Cond.selects RX1 yX1_breakThrough yX1_breakThrough, Cond.code yX1_breakThrough cX1_breakThrough 4 none, Cond.fieldLink RX1 124 "StakeWeirs$Barge" "broken" "I", Cond.methodLink RX1 176 yX2_breakFor, Cond.instanceMethod yX2_breakFor, Cond.selects RX2 yX2_breakFor yX2_breakFor, Cond.code yX2_breakFor cX2_breakFor 3 (some .int), Cond.methodLink RX2 47 yX2_loseWattle, Cond.instanceMethod yX2_loseWattle, Cond.selects RX2 yX2_loseWattle yX2_loseWattle, Cond.code yX2_loseWattle cX2_loseWattle 2 none, Cond.methodLink RX1 154 yX1_leaveOutArrived, Cond.instanceMethod yX1_leaveOutArrived, Cond.selects RX1 yX1_leaveOutArrived yX1_leaveOutArrived]
def wsL_foresee_r7 : List Cond := [Cond.code yX1_leaveOutArrived cX1_leaveOutArrived 4 none, Cond.methodLink RX1 157 yX1_rotWattle, Cond.instanceMethod yX1_rotWattle, Cond.selects RX1 yX1_rotWattle yX1_rotWattle, Cond.code yX1_rotWattle cX1_rotWattle 4 none, Cond.methodLink RX1 131 yX2_isHeld, Cond.instanceMethod yX2_isHeld, Cond.selects RX2 yX2_isHeld yX2_isHeld, Cond.code yX2_isHeld cX2_isHeld 1 (some .boolean), Cond.methodLink RX1 179 yX2_loseWattle, Cond.methodLink RX1 160 yX1_collectRents, Cond.instanceMethod yX1_collectRents, Cond.selects RX1 yX1_collectRents yX1_collectRents, Cond.code yX1_collectRents cX1_collectRents 3 none, Cond.methodLink RX1 182 yX2_payRent, Cond.instanceMethod yX2_payRent, Cond.selects RX2 yX2_payRent yX2_payRent, Cond.code yX2_payRent cX2_payRent 1 (some .int), Cond.methodLink RX3 133 yX1_fact, Cond.instanceMethod yX1_fact, Cond.selects RX1 yX1_fact yX1_fact, Cond.code yX1_fact cX1_fact 2 (some .int), Cond.methodLink RX1 114 yX1_heldWeirs, Cond.instanceMethod yX1_heldWeirs]
def wsL_foresee_r8 : List Cond := [Cond.selects RX1 yX1_heldWeirs yX1_heldWeirs, Cond.code yX1_heldWeirs cX1_heldWeirs 4 (some .int), Cond.methodLink RX1 117 yX1_allEels, Cond.instanceMethod yX1_allEels, Cond.selects RX1 yX1_allEels yX1_allEels, Cond.code yX1_allEels cX1_allEels 4 (some .int), Cond.fieldLink RX1 138 "StakeWeirs$Weir" "eels" "I"]
def wsL_foresee : List Cond := .codeWith yL_foresee cL_foresee 5 (some .int) [(0, 10, 13, 13), (0, 10, 17, 21)] :: ((wsL_foresee_r1 ++ (wsL_foresee_r2 ++ (wsL_foresee_r3 ++ (wsL_foresee_r4 ++ (wsL_foresee_r5 ++ (wsL_foresee_r6 ++ (wsL_foresee_r7 ++ wsL_foresee_r8))))))) ++ wsX30 ++ wsX10 ++ wsX20 ++ wsX00 ++ (vx_atS RX3 27 "java/lang/IllegalArgumentException" ["java/lang/RuntimeException", "java/lang/Exception"]).filter goodWord ++ (vx_atS RX3 51 "java/lang/IndexOutOfBoundsException" ["java/lang/RuntimeException", "java/lang/Exception"]).filter goodWord)
def wsL_advise_r1 : List Cond := [Cond.classLink RL 21 "java/lang/IndexOutOfBoundsException", Cond.classLink RL 13 "java/lang/IllegalArgumentException", Cond.methodLink RL 67 yX3_advise, Cond.instanceMethod yX3_advise, Cond.selects RX3 yX3_advise yX3_advise, Cond.initialized RX3, Cond.code yX3_advise cX3_advise 8 (some .int), Cond.classLink RX3 47 "java/lang/IndexOutOfBoundsException", Cond.initialized "java/lang/IndexOutOfBoundsException", Cond.classLink RX3 23 "java/lang/IllegalArgumentException", Cond.initialized "java/lang/IllegalArgumentException", Cond.fieldLink RX3 12 "StakeWeirs" "now" "LStakeWeirs$Estuary;", Cond.methodLink RX3 43 yX1_weirAt, Cond.instanceMethod yX1_weirAt, Cond.selects RX1 yX1_weirAt yX1_weirAt, Cond.initialized RX1, Cond.code yX1_weirAt cX1_weirAt 3 (some (.object "StakeWeirs$Weir")), Cond.fieldLink RX1 39 "StakeWeirs$Estuary" "weirCount" "I", Cond.fieldLink RX1 20 "StakeWeirs$Estuary" "weirs" "[LStakeWeirs$Weir;", Cond.methodLink RX3 19 yX3_isWithin, Cond.static yX3_isWithin, Cond.code yX3_isWithin cX3_isWithin 3 (some .boolean), Cond.methodLink RX3 173 yX2_isFishing, Cond.instanceMethod yX2_isFishing]
def wsL_advise_r2 : List Cond := [Cond.selects RX2 yX2_isFishing yX2_isFishing, Cond.initialized RX2, Cond.code yX2_isFishing cX2_isFishing 1 (some .boolean), Cond.fieldLink RX2 34 "StakeWeirs$Weir" "owed" "I", Cond.fieldLink RX2 30 "StakeWeirs$Weir" "open" "Z", Cond.methodLink RX3 176 yX3_eelsWithStakes, Cond.instanceMethod yX3_eelsWithStakes, Cond.selects RX3 yX3_eelsWithStakes yX3_eelsWithStakes, Cond.code yX3_eelsWithStakes cX3_eelsWithStakes 5 (some .int), Cond.fieldLink RX3 16 "StakeWeirs" "trial" "LStakeWeirs$Estuary;", Cond.fieldLink RX3 76 "StakeWeirs$Weir" "stakes" "I", Cond.fieldLink RX3 81 "StakeWeirs$Weir" "eels" "I", Cond.methodLink RX3 149 yX1_copyFrom, Cond.instanceMethod yX1_copyFrom, Cond.selects RX1 yX1_copyFrom yX1_copyFrom, Cond.code yX1_copyFrom cX1_copyFrom 3 none, Cond.fieldLink RX1 9 "StakeWeirs$Estuary" "table" "[I", Cond.fieldLink RX1 15 "StakeWeirs$Estuary" "order" "[I", Cond.fieldLink RX1 51 "StakeWeirs$Estuary" "bargeCount" "I", Cond.fieldLink RX1 62 "StakeWeirs$Estuary" "night" "I", Cond.fieldLink RX1 65 "StakeWeirs$Estuary" "arrived" "I", Cond.fieldLink RX1 68 "StakeWeirs$Estuary" "fines" "I", Cond.fieldLink RX1 71 "StakeWeirs$Estuary" "rents" "I", Cond.methodLink RX1 32 yX1_tableEels]
def wsL_advise_r3 : List Cond := [Cond.instanceMethod yX1_tableEels, Cond.selects RX1 yX1_tableEels yX1_tableEels, Cond.code yX1_tableEels cX1_tableEels 2 (some .int), Cond.methodLink RX1 36 yX1_inOrder, Cond.instanceMethod yX1_inOrder, Cond.selects RX1 yX1_inOrder yX1_inOrder, Cond.code yX1_inOrder cX1_inOrder 2 (some .int), Cond.methodLink RX1 43 yX1_weirAt, Cond.methodLink RX1 47 yX1_copyWeir, Cond.static yX1_copyWeir, Cond.code yX1_copyWeir cX1_copyWeir 2 none, Cond.methodLink RX1 74 yX2_copyFrom, Cond.instanceMethod yX2_copyFrom, Cond.selects RX2 yX2_copyFrom yX2_copyFrom, Cond.code yX2_copyFrom cX2_copyFrom 2 none, Cond.fieldLink RX2 9 "StakeWeirs$Weir" "place" "I", Cond.fieldLink RX2 15 "StakeWeirs$Weir" "stakes" "I", Cond.fieldLink RX2 18 "StakeWeirs$Weir" "wattle" "I", Cond.fieldLink RX2 21 "StakeWeirs$Weir" "rent" "I", Cond.fieldLink RX2 24 "StakeWeirs$Weir" "coins" "I", Cond.fieldLink RX2 27 "StakeWeirs$Weir" "eels" "I", Cond.methodLink RX1 54 yX1_bargeAt, Cond.instanceMethod yX1_bargeAt, Cond.selects RX1 yX1_bargeAt yX1_bargeAt]
def wsL_advise_r4 : List Cond := [Cond.code yX1_bargeAt cX1_bargeAt 3 (some (.object "StakeWeirs$Barge")), Cond.fieldLink RX1 27 "StakeWeirs$Estuary" "barges" "[LStakeWeirs$Barge;", Cond.methodLink RX1 58 yX1_copyBarge, Cond.static yX1_copyBarge, Cond.code yX1_copyBarge cX1_copyBarge 2 none, Cond.methodLink RX1 78 yX0_copyFrom, Cond.instanceMethod yX0_copyFrom, Cond.selects RX0 yX0_copyFrom yX0_copyFrom, Cond.initialized RX0, Cond.code yX0_copyFrom cX0_copyFrom 2 none, Cond.fieldLink RX0 9 "StakeWeirs$Barge" "ticket" "I", Cond.fieldLink RX0 15 "StakeWeirs$Barge" "wide" "I", Cond.fieldLink RX0 18 "StakeWeirs$Barge" "place" "I", Cond.fieldLink RX0 21 "StakeWeirs$Barge" "broken" "I", Cond.methodLink RX3 145 yX1_goThroughNights, Cond.instanceMethod yX1_goThroughNights, Cond.selects RX1 yX1_goThroughNights yX1_goThroughNights, Cond.code yX1_goThroughNights cX1_goThroughNights 3 none, Cond.methodLink RX1 148 yX1_catchEels, Cond.instanceMethod yX1_catchEels, Cond.selects RX1 yX1_catchEels yX1_catchEels, Cond.code yX1_catchEels cX1_catchEels 4 none, Cond.methodLink RX1 111 yX1_run, Cond.instanceMethod yX1_run]
def wsL_advise_r5 : List Cond := [Cond.selects RX1 yX1_run yX1_run, Cond.code yX1_run cX1_run 3 (some .int), Cond.methodLink RX1 101 yJ9_floorMod_7cf53, Cond.static yJ9_floorMod_7cf53, Cond.initialized RJ9, Cond.code yJ9_floorMod_7cf53 cJ9_floorMod_7cf53 3 (some .int), Cond.methodLink RX1 107 yX1_moon, Cond.instanceMethod yX1_moon, Cond.selects RX1 yX1_moon yX1_moon, Cond.code yX1_moon cX1_moon 2 (some .int), Cond.methodLink RX1 163 yX2_isFishing, Cond.methodLink RX1 166 yX2_catchOf, Cond.instanceMethod yX2_catchOf, Cond.selects RX2 yX2_catchOf yX2_catchOf, Cond.code yX2_catchOf cX2_catchOf 3 (some .int), Cond.methodLink RX2 41 Lib.Math.min.name, Cond.static Lib.Math.min.name, Cond.initialized "java/lang/Math", Cond.code Lib.Math.min.name Lib.Math.min.code 2 (some .int), Cond.methodLink RX1 151 yX1_moveBarges, Cond.instanceMethod yX1_moveBarges, Cond.selects RX1 yX1_moveBarges yX1_moveBarges, Cond.code yX1_moveBarges cX1_moveBarges 4 none, Cond.fieldLink RX1 93 "StakeWeirs$Weir" "place" "I"]
def wsL_advise_r6 : List Cond := [Cond.methodLink RX1 127 yX1_nextInWay, Cond.instanceMethod yX1_nextInWay, Cond.selects RX1 yX1_nextInWay yX1_nextInWay, Cond.code yX1_nextInWay cX1_nextInWay 6 (some .int), Cond.fieldLink RX1 123 "StakeWeirs$Barge" "place" "I", Cond.fieldLink RX1 120 "StakeWeirs$Barge" "wide" "I", Cond.methodLink RX1 141 yX2_isInWay, Cond.instanceMethod yX2_isInWay, Cond.selects RX2 yX2_isInWay yX2_isInWay, Cond.code yX2_isInWay cX2_isInWay 2 (some .boolean), Cond.methodLink RX2 37 yX2_isFishing, Cond.methodLink RX1 169 yX0_goOn, Cond.instanceMethod yX0_goOn, Cond.selects RX0 yX0_goOn yX0_goOn, Cond.code yX0_goOn cX0_goOn 2 none, Cond.methodLink RX0 24 Lib.Math.min.name, Cond.methodLink RX1 173 yX1_breakThrough, Cond.instanceMethod yX1_breakThrough, Cond.selects RX1 yX1_breakThrough yX1_breakThrough, Cond.code yX1_breakThrough cX1_breakThrough 4 none, Cond.fieldLink RX1 124 "StakeWeirs$Barge" "broken" "I", Cond.methodLink RX1 176 yX2_breakFor, Cond.instanceMethod yX2_breakFor, Cond.selects RX2 yX2_breakFor yX2_breakFor]
def wsL_advise_r7 : List Cond := [Cond.code yX2_breakFor cX2_breakFor 3 (some .int), Cond.methodLink RX2 47 yX2_loseWattle, Cond.instanceMethod yX2_loseWattle, Cond.selects RX2 yX2_loseWattle yX2_loseWattle, Cond.code yX2_loseWattle cX2_loseWattle 2 none, Cond.methodLink RX1 154 yX1_leaveOutArrived, Cond.instanceMethod yX1_leaveOutArrived, Cond.selects RX1 yX1_leaveOutArrived yX1_leaveOutArrived, Cond.code yX1_leaveOutArrived cX1_leaveOutArrived 4 none, Cond.methodLink RX1 157 yX1_rotWattle, Cond.instanceMethod yX1_rotWattle, Cond.selects RX1 yX1_rotWattle yX1_rotWattle, Cond.code yX1_rotWattle cX1_rotWattle 4 none, Cond.methodLink RX1 131 yX2_isHeld, Cond.instanceMethod yX2_isHeld, Cond.selects RX2 yX2_isHeld yX2_isHeld, Cond.code yX2_isHeld cX2_isHeld 1 (some .boolean), Cond.methodLink RX1 179 yX2_loseWattle, Cond.methodLink RX1 160 yX1_collectRents, Cond.instanceMethod yX1_collectRents, Cond.selects RX1 yX1_collectRents yX1_collectRents, Cond.code yX1_collectRents cX1_collectRents 3 none, Cond.methodLink RX1 182 yX2_payRent, Cond.instanceMethod yX2_payRent]
def wsL_advise_r8 : List Cond := [Cond.selects RX2 yX2_payRent yX2_payRent, Cond.code yX2_payRent cX2_payRent 1 (some .int)]
def wsL_advise : List Cond := .codeWith yL_advise cL_advise 5 (some .int) [(0, 10, 13, 21), (0, 10, 17, 13)] :: ((wsL_advise_r1 ++ (wsL_advise_r2 ++ (wsL_advise_r3 ++ (wsL_advise_r4 ++ (wsL_advise_r5 ++ (wsL_advise_r6 ++ (wsL_advise_r7 ++ wsL_advise_r8))))))) ++ wsX30 ++ wsX10 ++ wsX20 ++ wsX00 ++ (vx_atS RX3 51 "java/lang/IndexOutOfBoundsException" ["java/lang/RuntimeException", "java/lang/Exception"]).filter goodWord ++ (vx_atS RX3 27 "java/lang/IllegalArgumentException" ["java/lang/RuntimeException", "java/lang/Exception"]).filter goodWord)
def wsL_law0_r1 : List Cond := [Cond.classLink RL 8 RX3, Cond.instantiable RX3 2, Cond.initialized RX3, Cond.classLink RL 71 RX5, Cond.instantiable RX5 7, Cond.initialized RX5, Cond.arrayClass .long, Cond.methodLink RL 70 yX3_init, Cond.instanceMethod yX3_init, Cond.code yX3_init cX3_init 1 none, Cond.methodLink RX3 3 objectInit, Cond.instanceMethod objectInit, Cond.code objectInit ⟨#[0xb1]⟩ 1 none, Cond.classLink RX3 9 RX1, Cond.instantiable RX1 10, Cond.initialized RX1, Cond.fieldLink RX3 12 "StakeWeirs" "now" "LStakeWeirs$Estuary;", Cond.fieldLink RX3 16 "StakeWeirs" "trial" "LStakeWeirs$Estuary;", Cond.methodLink RX3 11 yX1_init, Cond.instanceMethod yX1_init, Cond.code yX1_init cX1_init 2 none, Cond.methodLink RX1 3 objectInit, Cond.arrayClass .int, Cond.fieldLink RX1 9 "StakeWeirs$Estuary" "table" "[I"]
def wsL_law0_r2 : List Cond := [Cond.fieldLink RX1 15 "StakeWeirs$Estuary" "order" "[I", Cond.classLink RX1 18 RX2, Cond.fieldLink RX1 20 "StakeWeirs$Estuary" "weirs" "[LStakeWeirs$Weir;", Cond.instantiable RX2 8, Cond.initialized RX2, Cond.classLink RX1 25 RX0, Cond.fieldLink RX1 27 "StakeWeirs$Estuary" "barges" "[LStakeWeirs$Barge;", Cond.instantiable RX0 4, Cond.initialized RX0, Cond.instanceMethod yX2_init, Cond.code yX2_init cX2_init 1 none, Cond.methodLink RX2 3 objectInit, Cond.instanceMethod yX0_init, Cond.code yX0_init cX0_init 1 none, Cond.methodLink RX0 3 objectInit, Cond.methodLink RL 73 yX5_init, Cond.instanceMethod yX5_init, Cond.code yX5_init cX5_init 1 none, Cond.methodLink RX5 1 objectInit, Cond.fieldLink RX5 7 "StakeWeirsModel" "table" "[I", Cond.fieldLink RX5 13 "StakeWeirsModel" "place" "[I", Cond.fieldLink RX5 16 "StakeWeirsModel" "rent" "[I", Cond.classLink RX5 19 RX4, Cond.instantiable RX4 16]
def wsL_law0_r3 : List Cond := [Cond.initialized RX4, Cond.fieldLink RX5 24 "StakeWeirsModel" "s" "LStakeWeirsModel$State;", Cond.fieldLink RX5 28 "StakeWeirsModel" "ahead" "LStakeWeirsModel$State;", Cond.instanceMethod yX4_init, Cond.code yX4_init cX4_init 2 none, Cond.fieldLink RX4 3 "StakeWeirsModel$State" "this$0" "LStakeWeirsModel;", Cond.methodLink RX4 9 objectInit, Cond.fieldLink RX4 15 "StakeWeirsModel$State" "stakes" "[I", Cond.fieldLink RX4 19 "StakeWeirsModel$State" "wattle" "[I", Cond.fieldLink RX4 22 "StakeWeirsModel$State" "coins" "[I", Cond.fieldLink RX4 25 "StakeWeirsModel$State" "eels" "[I", Cond.fieldLink RX4 28 "StakeWeirsModel$State" "open" "[I", Cond.fieldLink RX4 31 "StakeWeirsModel$State" "owes" "[I", Cond.fieldLink RX4 34 "StakeWeirsModel$State" "wide" "[I", Cond.fieldLink RX4 37 "StakeWeirsModel$State" "at" "[I", Cond.fieldLink RX4 40 "StakeWeirsModel$State" "broken" "[I", Cond.fieldLink RX4 43 "StakeWeirsModel$State" "was" "[I", Cond.methodLink RL 74 yL_weir, Cond.static yL_weir, Cond.initialized RL, Cond.codeWith yL_weir cL_weir 6 (some .int) [(0, 12, 15, 13), (0, 12, 19, 15)], Cond.classLink RL 13 "java/lang/IllegalArgumentException", Cond.classLink RL 15 "java/lang/IllegalStateException", Cond.methodLink RL 7 yX3_weir]
def wsL_law0_r4 : List Cond := [Cond.instanceMethod yX3_weir, Cond.selects RX3 yX3_weir yX3_weir, Cond.code yX3_weir cX3_weir 4 (some .int), Cond.classLink RX3 23 "java/lang/IllegalArgumentException", Cond.initialized "java/lang/IllegalArgumentException", Cond.classLink RX3 34 "java/lang/IllegalStateException", Cond.initialized "java/lang/IllegalStateException", Cond.fieldLink RX3 30 "StakeWeirs$Estuary" "weirCount" "I", Cond.methodLink RX3 19 yX3_isWithin, Cond.static yX3_isWithin, Cond.code yX3_isWithin cX3_isWithin 3 (some .boolean), Cond.methodLink RX3 39 yX1_addWeir, Cond.instanceMethod yX1_addWeir, Cond.selects RX1 yX1_addWeir yX1_addWeir, Cond.code yX1_addWeir cX1_addWeir 6 (some .int), Cond.fieldLink RX1 39 "StakeWeirs$Estuary" "weirCount" "I", Cond.methodLink RX1 81 yX1_putInOrder, Cond.instanceMethod yX1_putInOrder, Cond.selects RX1 yX1_putInOrder yX1_putInOrder, Cond.code yX1_putInOrder cX1_putInOrder 4 none, Cond.methodLink RX1 89 yX1_isSeawardsOf, Cond.instanceMethod yX1_isSeawardsOf, Cond.selects RX1 yX1_isSeawardsOf yX1_isSeawardsOf, Cond.code yX1_isSeawardsOf cX1_isSeawardsOf 4 (some .boolean)]
def wsL_law0_r5 : List Cond := [Cond.fieldLink RX1 93 "StakeWeirs$Weir" "place" "I", Cond.methodLink RX1 43 yX1_weirAt, Cond.instanceMethod yX1_weirAt, Cond.selects RX1 yX1_weirAt yX1_weirAt, Cond.code yX1_weirAt cX1_weirAt 3 (some (.object "StakeWeirs$Weir")), Cond.methodLink RX1 85 yX2_makeNew, Cond.instanceMethod yX2_makeNew, Cond.selects RX2 yX2_makeNew yX2_makeNew, Cond.code yX2_makeNew cX2_makeNew 4 none, Cond.fieldLink RX2 9 "StakeWeirs$Weir" "place" "I", Cond.fieldLink RX2 15 "StakeWeirs$Weir" "stakes" "I", Cond.fieldLink RX2 18 "StakeWeirs$Weir" "wattle" "I", Cond.fieldLink RX2 21 "StakeWeirs$Weir" "rent" "I", Cond.fieldLink RX2 24 "StakeWeirs$Weir" "coins" "I", Cond.fieldLink RX2 27 "StakeWeirs$Weir" "eels" "I", Cond.fieldLink RX2 30 "StakeWeirs$Weir" "open" "Z", Cond.fieldLink RX2 34 "StakeWeirs$Weir" "owed" "I", Cond.methodLink RL 79 yX5_weir, Cond.instanceMethod yX5_weir, Cond.selects RX5 yX5_weir yX5_weir, Cond.code yX5_weir cX5_weir 4 (some .int), Cond.fieldLink RX5 31 "StakeWeirsModel" "thrown" "I", Cond.fieldLink RX5 35 "StakeWeirsModel" "weirs" "I", Cond.methodLink RX5 38 yX5_isIn]
def wsL_law0_r6 : List Cond := [Cond.static yX5_isIn, Cond.code yX5_isIn cX5_isIn 3 (some .boolean), Cond.methodLink RX5 45 yX5_no, Cond.instanceMethod yX5_no, Cond.selects RX5 yX5_no yX5_no, Cond.code yX5_no cX5_no 2 (some .int), Cond.methodLink RL 80 yX5_thrown, Cond.instanceMethod yX5_thrown, Cond.selects RX5 yX5_thrown yX5_thrown, Cond.code yX5_thrown cX5_thrown 1 (some .int), Cond.methodLink RL 84 yL_gate, Cond.static yL_gate, Cond.codeWith yL_gate cL_gate 4 (some .int) [(0, 16, 19, 21), (0, 16, 22, 15)], Cond.classLink RL 21 "java/lang/IndexOutOfBoundsException", Cond.methodLink RL 17 yX3_gate, Cond.instanceMethod yX3_gate, Cond.selects RX3 yX3_gate yX3_gate, Cond.code yX3_gate cX3_gate 3 (some .boolean), Cond.classLink RX3 47 "java/lang/IndexOutOfBoundsException", Cond.initialized "java/lang/IndexOutOfBoundsException", Cond.fieldLink RX3 60 "StakeWeirs$Weir" "open" "Z", Cond.methodLink RX3 43 yX1_weirAt, Cond.methodLink RX3 52 yX2_isHeld, Cond.instanceMethod yX2_isHeld]
def wsL_law0_r7 : List Cond := [Cond.selects RX2 yX2_isHeld yX2_isHeld, Cond.code yX2_isHeld cX2_isHeld 1 (some .boolean), Cond.methodLink RL 87 yX5_gate, Cond.instanceMethod yX5_gate, Cond.selects RX5 yX5_gate yX5_gate, Cond.code yX5_gate cX5_gate 2 (some .boolean), Cond.methodLink RX5 58 yX5_isWeir, Cond.instanceMethod yX5_isWeir, Cond.selects RX5 yX5_isWeir yX5_isWeir, Cond.code yX5_isWeir cX5_isWeir 2 (some .boolean), Cond.methodLink RX5 62 yX4_isHeld, Cond.instanceMethod yX4_isHeld, Cond.selects RX4 yX4_isHeld yX4_isHeld, Cond.code yX4_isHeld cX4_isHeld 2 (some .boolean), Cond.methodLink RL 88 yL_mend, Cond.static yL_mend, Cond.codeWith yL_mend cL_mend 5 (some .int) [(0, 10, 13, 21), (0, 10, 17, 13), (0, 10, 21, 15)], Cond.methodLink RL 23 yX3_mend, Cond.instanceMethod yX3_mend, Cond.selects RX3 yX3_mend yX3_mend, Cond.code yX3_mend cX3_mend 5 (some .int), Cond.fieldLink RX3 66 "StakeWeirs$Weir" "wattle" "I", Cond.fieldLink RX3 69 "StakeWeirs$Weir" "coins" "I", Cond.methodLink RL 91 yX5_mend]
def wsL_law0_r8 : List Cond := [Cond.instanceMethod yX5_mend, Cond.selects RX5 yX5_mend yX5_mend, Cond.code yX5_mend cX5_mend 4 (some .int), Cond.methodLink RL 92 yL_drive, Cond.static yL_drive, Cond.codeWith yL_drive cL_drive 5 (some .int) [(0, 10, 13, 21), (0, 10, 17, 13), (0, 10, 21, 15)], Cond.methodLink RL 27 yX3_drive, Cond.instanceMethod yX3_drive, Cond.selects RX3 yX3_drive yX3_drive, Cond.code yX3_drive cX3_drive 5 (some .int), Cond.fieldLink RX3 76 "StakeWeirs$Weir" "stakes" "I", Cond.methodLink RL 94 yX5_drive, Cond.instanceMethod yX5_drive, Cond.selects RX5 yX5_drive yX5_drive, Cond.code yX5_drive cX5_drive 3 (some .int), Cond.methodLink RL 95 yL_sell, Cond.static yL_sell, Cond.codeWith yL_sell cL_sell 4 (some .int) [(0, 9, 12, 21), (0, 9, 15, 15)], Cond.methodLink RL 30 yX3_sell, Cond.instanceMethod yX3_sell, Cond.selects RX3 yX3_sell yX3_sell, Cond.code yX3_sell cX3_sell 4 (some .int), Cond.fieldLink RX3 81 "StakeWeirs$Weir" "eels" "I", Cond.methodLink RX3 86 yX1_moon]
def wsL_law0_r9 : List Cond := [Cond.instanceMethod yX1_moon, Cond.selects RX1 yX1_moon yX1_moon, Cond.code yX1_moon cX1_moon 2 (some .int), Cond.fieldLink RX1 62 "StakeWeirs$Estuary" "night" "I", Cond.methodLink RX1 101 yJ9_floorMod_7cf53, Cond.static yJ9_floorMod_7cf53, Cond.initialized RJ9, Cond.code yJ9_floorMod_7cf53 cJ9_floorMod_7cf53 3 (some .int), Cond.methodLink RX3 90 yX3_priceOfEels, Cond.static yX3_priceOfEels, Cond.code yX3_priceOfEels cX3_priceOfEels 2 (some .int), Cond.methodLink RL 97 yX5_sell, Cond.instanceMethod yX5_sell, Cond.selects RX5 yX5_sell yX5_sell, Cond.code yX5_sell cX5_sell 4 (some .int), Cond.methodLink RX5 71 yX4_moon, Cond.instanceMethod yX4_moon, Cond.selects RX4 yX4_moon yX4_moon, Cond.code yX4_moon cX4_moon 2 (some .int), Cond.fieldLink RX4 52 "StakeWeirsModel$State" "night" "I", Cond.methodLink RL 98 yL_setRun, Cond.static yL_setRun, Cond.codeWith yL_setRun cL_setRun 5 (some .int) [(0, 10, 13, 21), (0, 10, 17, 13)], Cond.methodLink RL 34 yX3_setRun]
def wsL_law0_r10 : List Cond := [Cond.instanceMethod yX3_setRun, Cond.selects RX3 yX3_setRun yX3_setRun, Cond.code yX3_setRun cX3_setRun 4 (some .int), Cond.methodLink RX3 98 yX1_tableEels, Cond.instanceMethod yX1_tableEels, Cond.selects RX1 yX1_tableEels yX1_tableEels, Cond.code yX1_tableEels cX1_tableEels 2 (some .int), Cond.methodLink RX3 102 yX1_setTableEels, Cond.instanceMethod yX1_setTableEels, Cond.selects RX1 yX1_setTableEels yX1_setTableEels, Cond.code yX1_setTableEels cX1_setTableEels 3 none, Cond.methodLink RL 100 yX5_setRun, Cond.instanceMethod yX5_setRun, Cond.selects RX5 yX5_setRun yX5_setRun, Cond.code yX5_setRun cX5_setRun 4 (some .int), Cond.methodLink RL 101 yL_barge, Cond.static yL_barge, Cond.codeWith yL_barge cL_barge 4 (some .int) [(0, 9, 12, 13), (0, 9, 15, 15)], Cond.methodLink RL 37 yX3_barge, Cond.instanceMethod yX3_barge, Cond.selects RX3 yX3_barge yX3_barge, Cond.code yX3_barge cX3_barge 2 (some .int), Cond.fieldLink RX3 108 "StakeWeirs$Estuary" "bargeCount" "I", Cond.methodLink RX3 113 yX1_addBarge]
def wsL_law0_r11 : List Cond := [Cond.instanceMethod yX1_addBarge, Cond.selects RX1 yX1_addBarge yX1_addBarge, Cond.code yX1_addBarge cX1_addBarge 4 (some .int), Cond.fieldLink RX1 51 "StakeWeirs$Estuary" "bargeCount" "I", Cond.fieldLink RX1 65 "StakeWeirs$Estuary" "arrived" "I", Cond.methodLink RX1 54 yX1_bargeAt, Cond.instanceMethod yX1_bargeAt, Cond.selects RX1 yX1_bargeAt yX1_bargeAt, Cond.code yX1_bargeAt cX1_bargeAt 3 (some (.object "StakeWeirs$Barge")), Cond.methodLink RX1 96 yX0_makeNew, Cond.instanceMethod yX0_makeNew, Cond.selects RX0 yX0_makeNew yX0_makeNew, Cond.code yX0_makeNew cX0_makeNew 3 none, Cond.fieldLink RX0 9 "StakeWeirs$Barge" "ticket" "I", Cond.fieldLink RX0 15 "StakeWeirs$Barge" "wide" "I", Cond.fieldLink RX0 18 "StakeWeirs$Barge" "place" "I", Cond.fieldLink RX0 21 "StakeWeirs$Barge" "broken" "I", Cond.methodLink RL 103 yX5_barge, Cond.instanceMethod yX5_barge, Cond.selects RX5 yX5_barge yX5_barge, Cond.code yX5_barge cX5_barge 2 (some .int), Cond.methodLink RL 104 yL_about, Cond.static yL_about, Cond.codeWith yL_about cL_about 5 (some .int) [(0, 10, 13, 21)]]
def wsL_law0_r12 : List Cond := [Cond.methodLink RL 40 yX3_about, Cond.instanceMethod yX3_about, Cond.selects RX3 yX3_about yX3_about, Cond.code yX3_about cX3_about 4 (some .int), Cond.methodLink RX3 118 yX2_fact, Cond.instanceMethod yX2_fact, Cond.selects RX2 yX2_fact yX2_fact, Cond.code yX2_fact cX2_fact 2 (some .int), Cond.methodLink RL 106 yX5_about, Cond.instanceMethod yX5_about, Cond.selects RX5 yX5_about yX5_about, Cond.code yX5_about cX5_about 3 (some .int), Cond.methodLink RX5 87 yX5_weirTold, Cond.instanceMethod yX5_weirTold, Cond.selects RX5 yX5_weirTold yX5_weirTold, Cond.code yX5_weirTold cX5_weirTold 4 (some .int), Cond.methodLink RL 107 yL_told, Cond.static yL_told, Cond.codeWith yL_told cL_told 5 (some .int) [(0, 10, 13, 21)], Cond.methodLink RL 43 yX3_told, Cond.instanceMethod yX3_told, Cond.selects RX3 yX3_told yX3_told, Cond.code yX3_told cX3_told 4 (some .int), Cond.methodLink RX3 121 yX1_bargeAt]
def wsL_law0_r13 : List Cond := [Cond.methodLink RX3 127 yX1_bargeFact, Cond.instanceMethod yX1_bargeFact, Cond.selects RX1 yX1_bargeFact yX1_bargeFact, Cond.code yX1_bargeFact cX1_bargeFact 3 (some .int), Cond.fieldLink RX1 120 "StakeWeirs$Barge" "wide" "I", Cond.fieldLink RX1 123 "StakeWeirs$Barge" "place" "I", Cond.fieldLink RX1 124 "StakeWeirs$Barge" "broken" "I", Cond.methodLink RX1 127 yX1_nextInWay, Cond.instanceMethod yX1_nextInWay, Cond.selects RX1 yX1_nextInWay yX1_nextInWay, Cond.code yX1_nextInWay cX1_nextInWay 6 (some .int), Cond.methodLink RX1 141 yX2_isInWay, Cond.instanceMethod yX2_isInWay, Cond.selects RX2 yX2_isInWay yX2_isInWay, Cond.code yX2_isInWay cX2_isInWay 2 (some .boolean), Cond.methodLink RX2 37 yX2_isFishing, Cond.instanceMethod yX2_isFishing, Cond.selects RX2 yX2_isFishing yX2_isFishing, Cond.code yX2_isFishing cX2_isFishing 1 (some .boolean), Cond.methodLink RL 109 yX5_told, Cond.instanceMethod yX5_told, Cond.selects RX5 yX5_told yX5_told, Cond.code yX5_told cX5_told 3 (some .int), Cond.methodLink RX5 98 yX5_isBarge]
def wsL_law0_r14 : List Cond := [Cond.instanceMethod yX5_isBarge, Cond.selects RX5 yX5_isBarge yX5_isBarge, Cond.code yX5_isBarge cX5_isBarge 2 (some .boolean), Cond.methodLink RX5 101 yX5_bargeTold, Cond.instanceMethod yX5_bargeTold, Cond.selects RX5 yX5_bargeTold yX5_bargeTold, Cond.code yX5_bargeTold cX5_bargeTold 3 (some .int), Cond.methodLink RX5 95 yX5_nextFor, Cond.instanceMethod yX5_nextFor, Cond.selects RX5 yX5_nextFor yX5_nextFor, Cond.code yX5_nextFor cX5_nextFor 4 (some .int), Cond.methodLink RX5 91 yX4_isInWay, Cond.instanceMethod yX4_isInWay, Cond.selects RX4 yX4_isInWay yX4_isInWay, Cond.code yX4_isInWay cX4_isInWay 3 (some .boolean), Cond.methodLink RX4 79 yX4_isHeld, Cond.methodLink RL 110 yL_count, Cond.static yL_count, Cond.codeWith yL_count cL_count 4 (some .int) [(0, 9, 12, 21)], Cond.methodLink RL 46 yX3_count, Cond.instanceMethod yX3_count, Cond.selects RX3 yX3_count yX3_count, Cond.code yX3_count cX3_count 2 (some .int), Cond.methodLink RX3 133 yX1_fact]
def wsL_law0_r15 : List Cond := [Cond.instanceMethod yX1_fact, Cond.selects RX1 yX1_fact yX1_fact, Cond.code yX1_fact cX1_fact 2 (some .int), Cond.fieldLink RX1 68 "StakeWeirs$Estuary" "fines" "I", Cond.fieldLink RX1 71 "StakeWeirs$Estuary" "rents" "I", Cond.methodLink RX1 107 yX1_moon, Cond.methodLink RX1 111 yX1_run, Cond.instanceMethod yX1_run, Cond.selects RX1 yX1_run yX1_run, Cond.code yX1_run cX1_run 3 (some .int), Cond.methodLink RX1 32 yX1_tableEels, Cond.methodLink RX1 114 yX1_heldWeirs, Cond.instanceMethod yX1_heldWeirs, Cond.selects RX1 yX1_heldWeirs yX1_heldWeirs, Cond.code yX1_heldWeirs cX1_heldWeirs 4 (some .int), Cond.methodLink RX1 131 yX2_isHeld, Cond.methodLink RX1 117 yX1_allEels, Cond.instanceMethod yX1_allEels, Cond.selects RX1 yX1_allEels yX1_allEels, Cond.code yX1_allEels cX1_allEels 4 (some .int), Cond.fieldLink RX1 138 "StakeWeirs$Weir" "eels" "I", Cond.methodLink RL 112 yX5_count, Cond.instanceMethod yX5_count, Cond.selects RX5 yX5_count yX5_count]
def wsL_law0_r16 : List Cond := [Cond.code yX5_count cX5_count 2 (some .int), Cond.methodLink RX5 104 yX4_counted, Cond.instanceMethod yX4_counted, Cond.selects RX4 yX4_counted yX4_counted, Cond.code yX4_counted cX4_counted 3 (some .int), Cond.fieldLink RX4 56 "StakeWeirsModel$State" "barges" "I", Cond.fieldLink RX4 59 "StakeWeirsModel$State" "arrived" "I", Cond.fieldLink RX4 62 "StakeWeirsModel$State" "fines" "I", Cond.fieldLink RX4 65 "StakeWeirsModel$State" "rents" "I", Cond.methodLink RX4 75 yX4_moon, Cond.methodLink RX4 83 yX4_run, Cond.instanceMethod yX4_run, Cond.selects RX4 yX4_run yX4_run, Cond.code yX4_run cX4_run 1 (some .int), Cond.methodLink RX4 128 yX4_held, Cond.instanceMethod yX4_held, Cond.selects RX4 yX4_held yX4_held, Cond.code yX4_held cX4_held 3 (some .int), Cond.methodLink RX4 131 yX4_allEels, Cond.instanceMethod yX4_allEels, Cond.selects RX4 yX4_allEels yX4_allEels, Cond.code yX4_allEels cX4_allEels 3 (some .int), Cond.methodLink RL 113 yL_hinders, Cond.static yL_hinders]
def wsL_law0_r17 : List Cond := [Cond.codeWith yL_hinders cL_hinders 4 (some .int) [(0, 9, 12, 13)], Cond.methodLink RL 49 yX3_hinders, Cond.instanceMethod yX3_hinders, Cond.selects RX3 yX3_hinders yX3_hinders, Cond.code yX3_hinders cX3_hinders 2 (some .int), Cond.methodLink RX3 134 yX1_weirsInWay, Cond.instanceMethod yX1_weirsInWay, Cond.selects RX1 yX1_weirsInWay yX1_weirsInWay, Cond.code yX1_weirsInWay cX1_weirsInWay 5 (some .int), Cond.methodLink RL 115 yX5_hinders, Cond.instanceMethod yX5_hinders, Cond.selects RX5 yX5_hinders yX5_hinders, Cond.code yX5_hinders cX5_hinders 4 (some .int), Cond.methodLink RL 116 yX3_richest, Cond.instanceMethod yX3_richest, Cond.selects RX3 yX3_richest yX3_richest, Cond.code yX3_richest cX3_richest 1 (some .int), Cond.methodLink RX3 137 yX1_richestHeld, Cond.instanceMethod yX1_richestHeld, Cond.selects RX1 yX1_richestHeld yX1_richestHeld, Cond.code yX1_richestHeld cX1_richestHeld 5 (some .int), Cond.fieldLink RX1 145 "StakeWeirs$Weir" "coins" "I", Cond.methodLink RL 119 yX5_richest, Cond.instanceMethod yX5_richest]
def wsL_law0_r18 : List Cond := [Cond.selects RX5 yX5_richest yX5_richest, Cond.code yX5_richest cX5_richest 3 (some .int), Cond.methodLink RL 120 yL_pass, Cond.static yL_pass, Cond.codeWith yL_pass cL_pass 4 (some .int) [(0, 9, 12, 13)], Cond.methodLink RL 52 yX3_pass, Cond.instanceMethod yX3_pass, Cond.selects RX3 yX3_pass yX3_pass, Cond.code yX3_pass cX3_pass 3 (some .int), Cond.fieldLink RX3 142 "StakeWeirs$Estuary" "arrived" "I", Cond.methodLink RX3 145 yX1_goThroughNights, Cond.instanceMethod yX1_goThroughNights, Cond.selects RX1 yX1_goThroughNights yX1_goThroughNights, Cond.code yX1_goThroughNights cX1_goThroughNights 3 none, Cond.methodLink RX1 148 yX1_catchEels, Cond.instanceMethod yX1_catchEels, Cond.selects RX1 yX1_catchEels yX1_catchEels, Cond.code yX1_catchEels cX1_catchEels 4 none, Cond.methodLink RX1 36 yX1_inOrder, Cond.instanceMethod yX1_inOrder, Cond.selects RX1 yX1_inOrder yX1_inOrder, Cond.code yX1_inOrder cX1_inOrder 2 (some .int), Cond.methodLink RX1 163 yX2_isFishing, Cond.methodLink RX1 166 yX2_catchOf]
def wsL_law0_r19 : List Cond := [Cond.instanceMethod yX2_catchOf, Cond.selects RX2 yX2_catchOf yX2_catchOf, Cond.code yX2_catchOf cX2_catchOf 3 (some .int), Cond.methodLink RX2 41 Lib.Math.min.name, Cond.static Lib.Math.min.name, Cond.initialized "java/lang/Math", Cond.code Lib.Math.min.name Lib.Math.min.code 2 (some .int), Cond.methodLink RX1 151 yX1_moveBarges, Cond.instanceMethod yX1_moveBarges, Cond.selects RX1 yX1_moveBarges yX1_moveBarges, Cond.code yX1_moveBarges cX1_moveBarges 4 none, Cond.methodLink RX1 169 yX0_goOn, Cond.instanceMethod yX0_goOn, Cond.selects RX0 yX0_goOn yX0_goOn, Cond.code yX0_goOn cX0_goOn 2 none, Cond.methodLink RX0 24 Lib.Math.min.name, Cond.methodLink RX1 173 yX1_breakThrough, Cond.instanceMethod yX1_breakThrough, Cond.selects RX1 yX1_breakThrough yX1_breakThrough, Cond.code yX1_breakThrough cX1_breakThrough 4 none, Cond.methodLink RX1 176 yX2_breakFor, Cond.instanceMethod yX2_breakFor, Cond.selects RX2 yX2_breakFor yX2_breakFor, Cond.code yX2_breakFor cX2_breakFor 3 (some .int)]
def wsL_law0_r20 : List Cond := [Cond.methodLink RX2 47 yX2_loseWattle, Cond.instanceMethod yX2_loseWattle, Cond.selects RX2 yX2_loseWattle yX2_loseWattle, Cond.code yX2_loseWattle cX2_loseWattle 2 none, Cond.methodLink RX1 154 yX1_leaveOutArrived, Cond.instanceMethod yX1_leaveOutArrived, Cond.selects RX1 yX1_leaveOutArrived yX1_leaveOutArrived, Cond.code yX1_leaveOutArrived cX1_leaveOutArrived 4 none, Cond.methodLink RX1 58 yX1_copyBarge, Cond.static yX1_copyBarge, Cond.code yX1_copyBarge cX1_copyBarge 2 none, Cond.methodLink RX1 78 yX0_copyFrom, Cond.instanceMethod yX0_copyFrom, Cond.selects RX0 yX0_copyFrom yX0_copyFrom, Cond.code yX0_copyFrom cX0_copyFrom 2 none, Cond.methodLink RX1 157 yX1_rotWattle, Cond.instanceMethod yX1_rotWattle, Cond.selects RX1 yX1_rotWattle yX1_rotWattle, Cond.code yX1_rotWattle cX1_rotWattle 4 none, Cond.methodLink RX1 179 yX2_loseWattle, Cond.methodLink RX1 160 yX1_collectRents, Cond.instanceMethod yX1_collectRents, Cond.selects RX1 yX1_collectRents yX1_collectRents, Cond.code yX1_collectRents cX1_collectRents 3 none]
def wsL_law0_r21 : List Cond := [Cond.methodLink RX1 182 yX2_payRent, Cond.instanceMethod yX2_payRent, Cond.selects RX2 yX2_payRent yX2_payRent, Cond.code yX2_payRent cX2_payRent 1 (some .int), Cond.methodLink RL 122 yX5_pass, Cond.instanceMethod yX5_pass, Cond.selects RX5 yX5_pass yX5_pass, Cond.code yX5_pass cX5_pass 3 (some .int), Cond.methodLink RX5 110 yX4_pass_, Cond.instanceMethod yX4_pass_, Cond.selects RX4 yX4_pass_ yX4_pass_, Cond.code yX4_pass_ cX4_pass_ 3 none, Cond.methodLink RX4 125 yX4_pass, Cond.instanceMethod yX4_pass, Cond.selects RX4 yX4_pass yX4_pass, Cond.code yX4_pass cX4_pass 2 none, Cond.methodLink RX4 102 Lib.Math.max.name, Cond.static Lib.Math.max.name, Cond.code Lib.Math.max.name Lib.Math.max.code 2 (some .int), Cond.methodLink RX4 111 yX4_runDown, Cond.instanceMethod yX4_runDown, Cond.selects RX4 yX4_runDown yX4_runDown, Cond.code yX4_runDown cX4_runDown 7 (some .int), Cond.methodLink RX4 92 Lib.Math.min.name]
def wsL_law0_r22 : List Cond := [Cond.methodLink RX4 115 yX4_goUp, Cond.instanceMethod yX4_goUp, Cond.selects RX4 yX4_goUp yX4_goUp, Cond.code yX4_goUp cX4_goUp 3 none, Cond.methodLink RX4 105 yX4_breaks, Cond.instanceMethod yX4_breaks, Cond.selects RX4 yX4_breaks yX4_breaks, Cond.code yX4_breaks cX4_breaks 5 (some .boolean), Cond.methodLink RX4 98 yX4_isInWay, Cond.methodLink RX4 119 yX4_leave, Cond.instanceMethod yX4_leave, Cond.selects RX4 yX4_leave yX4_leave, Cond.code yX4_leave cX4_leave 3 none, Cond.methodLink RX4 122 yX4_payRent, Cond.instanceMethod yX4_payRent, Cond.selects RX4 yX4_payRent yX4_payRent, Cond.code yX4_payRent cX4_payRent 2 none, Cond.methodLink RL 123 yL_catches, Cond.static yL_catches, Cond.codeWith yL_catches cL_catches 4 (some .int) [(0, 9, 12, 21)], Cond.methodLink RL 55 yX3_catches, Cond.instanceMethod yX3_catches, Cond.selects RX3 yX3_catches yX3_catches, Cond.code yX3_catches cX3_catches 4 (some .int)]
def wsL_law0_r23 : List Cond := [Cond.methodLink RX3 149 yX1_copyFrom, Cond.instanceMethod yX1_copyFrom, Cond.selects RX1 yX1_copyFrom yX1_copyFrom, Cond.code yX1_copyFrom cX1_copyFrom 3 none, Cond.methodLink RX1 47 yX1_copyWeir, Cond.static yX1_copyWeir, Cond.code yX1_copyWeir cX1_copyWeir 2 none, Cond.methodLink RX1 74 yX2_copyFrom, Cond.instanceMethod yX2_copyFrom, Cond.selects RX2 yX2_copyFrom yX2_copyFrom, Cond.code yX2_copyFrom cX2_copyFrom 2 none, Cond.methodLink RX3 153 yX1_catchEels, Cond.methodLink RL 125 yX5_catches, Cond.instanceMethod yX5_catches, Cond.selects RX5 yX5_catches yX5_catches, Cond.code yX5_catches cX5_catches 2 (some .int), Cond.methodLink RX5 114 yX4_become, Cond.instanceMethod yX4_become, Cond.selects RX4 yX4_become yX4_become, Cond.code yX4_become cX4_become 3 (some (.object "StakeWeirsModel$State")), Cond.methodLink RX4 68 yX4_copy, Cond.instanceMethod yX4_copy, Cond.selects RX4 yX4_copy yX4_copy, Cond.code yX4_copy cX4_copy 3 none]
def wsL_law0_r24 : List Cond := [Cond.methodLink RX4 46 arraycopyName, Cond.native arraycopyName, Cond.static arraycopyName, Cond.initialized "java/lang/System", Cond.methodLink RX5 118 yX4_runDown, Cond.methodLink RL 126 yL_arrives, Cond.static yL_arrives, Cond.codeWith yL_arrives cL_arrives 4 (some .int) [(0, 9, 12, 21)], Cond.methodLink RL 58 yX3_arrives, Cond.instanceMethod yX3_arrives, Cond.selects RX3 yX3_arrives yX3_arrives, Cond.code yX3_arrives cX3_arrives 4 (some .int), Cond.fieldLink RX3 158 "StakeWeirs$Barge" "ticket" "I", Cond.methodLink RX3 163 yX1_isUnderWay, Cond.instanceMethod yX1_isUnderWay, Cond.selects RX1 yX1_isUnderWay yX1_isUnderWay, Cond.code yX1_isUnderWay cX1_isUnderWay 4 (some .boolean), Cond.fieldLink RX1 98 "StakeWeirs$Barge" "ticket" "I", Cond.methodLink RL 128 yX5_arrives, Cond.instanceMethod yX5_arrives, Cond.selects RX5 yX5_arrives yX5_arrives, Cond.code yX5_arrives cX5_arrives 3 (some .int), Cond.methodLink RX5 124 yX5_isUnderWay, Cond.instanceMethod yX5_isUnderWay]
def wsL_law0_r25 : List Cond := [Cond.selects RX5 yX5_isUnderWay yX5_isUnderWay, Cond.code yX5_isUnderWay cX5_isUnderWay 3 (some .boolean), Cond.methodLink RX5 127 yX4_pass, Cond.methodLink RL 129 yL_lasts, Cond.static yL_lasts, Cond.codeWith yL_lasts cL_lasts 4 (some .int) [(0, 9, 12, 21)], Cond.methodLink RL 61 yX3_lasts, Cond.instanceMethod yX3_lasts, Cond.selects RX3 yX3_lasts yX3_lasts, Cond.code yX3_lasts cX3_lasts 4 (some .int), Cond.methodLink RL 131 yX5_lasts, Cond.instanceMethod yX5_lasts, Cond.selects RX5 yX5_lasts yX5_lasts, Cond.code yX5_lasts cX5_lasts 3 (some .int), Cond.methodLink RL 132 yL_foresee, Cond.static yL_foresee, Cond.codeWith yL_foresee cL_foresee 5 (some .int) [(0, 10, 13, 13), (0, 10, 17, 21)], Cond.methodLink RL 64 yX3_foresee, Cond.instanceMethod yX3_foresee, Cond.selects RX3 yX3_foresee yX3_foresee, Cond.code yX3_foresee cX3_foresee 3 (some .int), Cond.methodLink RL 134 yX5_foresee, Cond.instanceMethod yX5_foresee, Cond.selects RX5 yX5_foresee yX5_foresee]
def wsL_law0_r26 : List Cond := [Cond.code yX5_foresee cX5_foresee 3 (some .int), Cond.methodLink RL 135 yL_advise, Cond.static yL_advise, Cond.codeWith yL_advise cL_advise 5 (some .int) [(0, 10, 13, 21), (0, 10, 17, 13)], Cond.methodLink RL 67 yX3_advise, Cond.instanceMethod yX3_advise, Cond.selects RX3 yX3_advise yX3_advise, Cond.code yX3_advise cX3_advise 8 (some .int), Cond.methodLink RX3 173 yX2_isFishing, Cond.methodLink RX3 176 yX3_eelsWithStakes, Cond.instanceMethod yX3_eelsWithStakes, Cond.selects RX3 yX3_eelsWithStakes yX3_eelsWithStakes, Cond.code yX3_eelsWithStakes cX3_eelsWithStakes 5 (some .int), Cond.methodLink RL 137 yX5_advise, Cond.instanceMethod yX5_advise, Cond.selects RX5 yX5_advise yX5_advise, Cond.code yX5_advise cX5_advise 6 (some .int), Cond.methodLink RL 138 yX3_mean, Cond.instanceMethod yX3_mean, Cond.selects RX3 yX3_mean yX3_mean, Cond.code yX3_mean cX3_mean 2 (some .double), Cond.methodLink RX3 179 yX1_heldWeirs, Cond.methodLink RX3 182 yX1_heldWattle, Cond.instanceMethod yX1_heldWattle]
def wsL_law0_r27 : List Cond := [Cond.selects RX1 yX1_heldWattle yX1_heldWattle, Cond.code yX1_heldWattle cX1_heldWattle 4 (some .int), Cond.fieldLink RX1 135 "StakeWeirs$Weir" "wattle" "I", Cond.methodLink RL 142 yX5_mean, Cond.instanceMethod yX5_mean, Cond.selects RX5 yX5_mean yX5_mean, Cond.code yX5_mean cX5_mean 3 (some .double), Cond.methodLink RX5 129 yX4_held, Cond.methodLink RL 143 yX3_digest, Cond.instanceMethod yX3_digest, Cond.selects RX3 yX3_digest yX3_digest, Cond.code yX3_digest cX3_digest 4 (some .long), Cond.constantLong RX3 185 (1409), Cond.constantLong RX3 187 (31), Cond.methodLink RX3 189 yX3_digestOfWeirs, Cond.instanceMethod yX3_digestOfWeirs, Cond.selects RX3 yX3_digestOfWeirs yX3_digestOfWeirs, Cond.code yX3_digestOfWeirs cX3_digestOfWeirs 8 (some .long), Cond.methodLink RX3 193 yX3_digestOfBarges, Cond.instanceMethod yX3_digestOfBarges, Cond.selects RX3 yX3_digestOfBarges yX3_digestOfBarges, Cond.code yX3_digestOfBarges cX3_digestOfBarges 8 (some .long), Cond.methodLink RL 147 yX5_digest, Cond.instanceMethod yX5_digest]
def wsL_law0_r28 : List Cond := [Cond.selects RX5 yX5_digest yX5_digest, Cond.code yX5_digest cX5_digest 7 (some .long), Cond.constantLong RX5 132 (1409), Cond.constantLong RX5 134 (31)]
def wsL_law0 : List Cond := (wsL_law0_r1 ++ (wsL_law0_r2 ++ (wsL_law0_r3 ++ (wsL_law0_r4 ++ (wsL_law0_r5 ++ (wsL_law0_r6 ++ (wsL_law0_r7 ++ (wsL_law0_r8 ++ (wsL_law0_r9 ++ (wsL_law0_r10 ++ (wsL_law0_r11 ++ (wsL_law0_r12 ++ (wsL_law0_r13 ++ (wsL_law0_r14 ++ (wsL_law0_r15 ++ (wsL_law0_r16 ++ (wsL_law0_r17 ++ (wsL_law0_r18 ++ (wsL_law0_r19 ++ (wsL_law0_r20 ++ (wsL_law0_r21 ++ (wsL_law0_r22 ++ (wsL_law0_r23 ++ (wsL_law0_r24 ++ (wsL_law0_r25 ++ (wsL_law0_r26 ++ (wsL_law0_r27 ++ wsL_law0_r28))))))))))))))))))))))))))) ++ wsX30 ++ wsX50 ++ wsX10 ++ wsX20 ++ wsX00 ++ wsX40 ++ ([] : List Cond)
def wsL_law : List Cond := wsL_law0 ++ (vx_atS RX3 27 "java/lang/IllegalArgumentException" ["java/lang/RuntimeException", "java/lang/Exception"]).filter goodWord ++ (vx_atS RX3 38 "java/lang/IllegalStateException" ["java/lang/RuntimeException", "java/lang/Exception"]).filter goodWord ++ (vx_atS RX3 51 "java/lang/IndexOutOfBoundsException" ["java/lang/RuntimeException", "java/lang/Exception"]).filter goodWord
theorem inlX0 : ∀ w ∈ wsX00, w ∈ wsL_law := fun _ h => List.mem_append_left _ (List.mem_append_left _ (List.mem_append_left _ (List.mem_append_left _ (List.mem_append_left _ (List.mem_append_right _ h)))))
theorem inX0 : ∀ w ∈ wsX00, w ∈ lw_tbl := by decide +kernel
theorem inlX1 : ∀ w ∈ wsX10, w ∈ wsL_law := fun _ h => List.mem_append_left _ (List.mem_append_left _ (List.mem_append_left _ (List.mem_append_left _ (List.mem_append_left _ (List.mem_append_left _ (List.mem_append_left _ (List.mem_append_right _ h)))))))
theorem inX1 : ∀ w ∈ wsX10, w ∈ lw_tbl := by decide +kernel
theorem inlX2 : ∀ w ∈ wsX20, w ∈ wsL_law := fun _ h => List.mem_append_left _ (List.mem_append_left _ (List.mem_append_left _ (List.mem_append_left _ (List.mem_append_left _ (List.mem_append_left _ (List.mem_append_right _ h))))))
theorem inX2 : ∀ w ∈ wsX20, w ∈ lw_tbl := by decide +kernel
theorem inlX3 : ∀ w ∈ wsX30, w ∈ wsL_law := fun _ h => List.mem_append_left _ (List.mem_append_left _ (List.mem_append_left _ (List.mem_append_left _ (List.mem_append_left _ (List.mem_append_left _ (List.mem_append_left _ (List.mem_append_left _ (List.mem_append_left _ (List.mem_append_right _ h)))))))))
theorem inX3 : ∀ w ∈ wsX30, w ∈ lw_tbl := by decide +kernel
theorem inlX4 : ∀ w ∈ wsX40, w ∈ wsL_law := fun _ h => List.mem_append_left _ (List.mem_append_left _ (List.mem_append_left _ (List.mem_append_left _ (List.mem_append_right _ h))))
theorem inX4 : ∀ w ∈ wsX40, w ∈ lw_tbl := by decide +kernel
theorem inlX5 : ∀ w ∈ wsX50, w ∈ wsL_law := fun _ h => List.mem_append_left _ (List.mem_append_left _ (List.mem_append_left _ (List.mem_append_left _ (List.mem_append_left _ (List.mem_append_left _ (List.mem_append_left _ (List.mem_append_left _ (List.mem_append_right _ h))))))))
theorem inX5 : ∀ w ∈ wsX50, w ∈ lw_tbl := by decide +kernel
theorem inJ9 : ∀ w ∈ wsJ90, w ∈ lw_tbl := by decide +kernel
theorem inJ0 : ∀ w ∈ wsJ00, w ∈ lw_tbl := by decide +kernel
theorem inJ10 : ∀ w ∈ wsJ100, w ∈ lw_tbl := by decide +kernel
abbrev vwCl : List vw_C := [(RX0, TX0, 4), (RX1, TX1, 10), (RX2, TX2, 8), (RX3, TX3, 2), (RX4, TX4, 16), (RX5, TX5, 7)]
end
section
/-! the glue: what a method's contract says here, its start, its ends, its calls; worlds that go on in one form -/
/-- the array classes of the worlds -/
def tyL (y : Nat → ClassId) : List (ClassId × FieldType) := [(y 0, .int), (y 1, .object "StakeWeirs$Weir"), (y 2, .object "StakeWeirs$Barge"), (y 3, .long)]
/-- a boolean on the stack -/
def zb (b : Bool) : Int32 := if b then 1 else 0
theorem zb_t {b : Bool} (h : ¬ zb b = 0) : b = true := by cases b with | true => rfl | false => exact absurd rfl h
theorem zb_f {b : Bool} (h : zb b = 0) : b = false := by cases b with | true => exact absurd h (by decide) | false => rfl
theorem zb_01 (b : Bool) : zb b = 0 ∨ zb b = 1 := by cases b with | true => exact Or.inr rfl | false => exact Or.inl rfl
/-- a method that only reads: its answer, the heap as it was -/
def zRQ (rv : Option Value) : Array Value → State → Outcome → State → Prop := fun _ st o t => o = .returned rv ∧ t.heap = st.heap
/-- a method that writes: its answer, its world behind it, nothing else changed -/
def zMQ (rv : Option Value) (D : va_G) (w1 : va_W) (A : Nat → Prop) : Array Value → State → Outcome → State → Prop := fun _ st o t => (o = .returned rv ∧ va_P D vwCl w1 t.heap) ∧ va_F A st t
def zRP (D : va_G) (y : Nat → ClassId) (w : va_W) : State → Prop := fun U => va_P D vwCl w U.heap ∧ va_K D vwCl (tyL y) U
def zMP (D : va_G) (y : Nat → ClassId) (w : va_W) (sz : Nat) : State → Prop := fun U => U.heap.size = sz ∧ va_P D vwCl w U.heap ∧ va_K D vwCl (tyL y) U ∧ va_D (fun _ => True) w
def zR (l : Launch) (n : MethodName) (ws : List Cond) (rm : Room) (D : va_G) (y : Nat → ClassId) (av : List Value) (w : va_W) (rv : Option Value) : Prop := Met l n ws rm (va_Pc av (zRP D y w)) (zRQ rv) 0 0 (fun _ => False)
def zM (l : Launch) (n : MethodName) (ws : List Cond) (rm : Room) (D : va_G) (y : Nat → ClassId) (av : List Value) (w : va_W) (sz : Nat) (rv : Option Value) (w1 : va_W) (mc ms : Nat) : Prop := Met l n ws rm (va_Pc av (zMP D y w sz)) (zMQ rv D w1 (va_A w sz)) mc ms (va_A w sz)
theorem zRP_blind {D : va_G} {y : Nat → ClassId} {av : List Value} {w : va_W} : FrameBlind (va_Pc av (zRP D y w)) := by
  intro a U g mk q
  obtain ⟨q0, qP, qK⟩ := q
  exact ⟨q0, qP, va_K.moved (u := U) (U := U.calling g mk a) (Vm.Alike.refl U.vm) qK⟩
theorem zMP_blind {D : va_G} {y : Nat → ClassId} {av : List Value} {w : va_W} {sz : Nat} : FrameBlind (va_Pc av (zMP D y w sz)) := by
  intro a U g mk q
  obtain ⟨q0, q1, qP, qK, qD⟩ := q
  exact ⟨q0, q1, qP, va_K.moved (u := U) (U := U.calling g mk a) (Vm.Alike.refl U.vm) qK, qD⟩
set_option maxHeartbeats 4000000 in
theorem zR.of {l : Launch} {n : MethodName} {ws ws' : List Cond} {rm : Room} {D : va_G} {y : Nat → ClassId} {av : List Value} {w : va_W} {rv : Option Value} {cc : ByteArray} {maxL : Nat} {ret : Option FieldType} {own : String}
    (hy : plainName n.cls = true) (hw : ws = Cond.code n cc maxL ret :: ws') (hlen : (lg_sl av).length ≤ maxL) (ho : n.cls = own)
    (body : ∀ (p : Program) (e : Env) (s : State) (m : MethodId) (args : Array Value) (below : List Frame) (meth : Method) (c : Code) (ls : Array Slot), p.tables.exec = Jvm.exec → c.code = cc → meth.sig.returnType = ret → c.maxLocals = maxL → s.vm.findClass own = some m.cls → (∀ x ∈ ws, x.before args s = true) → meth.locks = false → va_P D vwCl w s.heap → va_K D vwCl (tyL y) s → lv_has ls maxL (lv_args 0 av) → W p l e rm s m args below meth c s.heap [] 0 0 (MQ below (zRQ rv) args s 0 0 (fun _ => False)) (F0 m 0 ls [])) : zR l n ws rm D y av w rv := by
  refine Met.ofW (cc := cc) (maxL := maxL) (ret := ret) hy hw ?_
  intro p e s m args below meth c s₁ B hml hv
  obtain ⟨rfl, hP, hK⟩ := hv
  have hown : s.vm.findClass own = some m.cls := by rw [← ho]; exact findClass_of_methodNamed B.named
  have hl := lv_entry av (n := maxL) hlen
  have hts := atoms_spec (ws := ws) B.pre
  rw [lg_entry_eq]
  exact body p e s m _ below meth c _ B.exec B.bytes B.returns hml hown hts B.notSynchronized hP hK hl
set_option maxHeartbeats 4000000 in
theorem zM.of {l : Launch} {n : MethodName} {ws ws' : List Cond} {rm : Room} {D : va_G} {y : Nat → ClassId} {av : List Value} {w w1 : va_W} {sz : Nat} {rv : Option Value} {mc ms : Nat} {cc : ByteArray} {maxL : Nat} {ret : Option FieldType} {own : String}
    (hy : plainName n.cls = true) (hw : ws = Cond.code n cc maxL ret :: ws') (hlen : (lg_sl av).length ≤ maxL) (ho : n.cls = own)
    (body : ∀ (p : Program) (e : Env) (s : State) (m : MethodId) (args : Array Value) (below : List Frame) (meth : Method) (c : Code) (ls : Array Slot) (A : Nat → Prop), p.tables.exec = Jvm.exec → c.code = cc → meth.sig.returnType = ret → c.maxLocals = maxL → s.vm.findClass own = some m.cls → (∀ x ∈ ws, x.before args s = true) → meth.locks = false → va_P D vwCl w s.heap → va_K D vwCl (tyL y) s → va_D A w → (∀ q : Nat, s.heap.size ≤ q → A q) → va_S A s.heap s.heap [] → lv_has ls maxL (lv_args 0 av) → meth.name = n.name → W p l e rm s m args below meth c s.heap [] 0 0 (MQ below (zMQ rv D w1 A) args s mc ms A) (F0 m 0 ls [])) : zM l n ws rm D y av w sz rv w1 mc ms := by
  refine Met.ofW (cc := cc) (maxL := maxL) (ret := ret) hy hw ?_
  intro p e s m args below meth c s₁ B hml hv
  obtain ⟨rfl, hsz, hP, hK, hD0⟩ := hv
  have hown : s.vm.findClass own = some m.cls := by rw [← ho]; exact findClass_of_methodNamed B.named
  have hl := lv_entry av (n := maxL) hlen
  have hts := atoms_spec (ws := ws) B.pre
  have hin : meth.name = n.name := (name_of_methodNamed B.named B.method).1
  subst hsz
  have hD := hD0.self (sz := s.heap.size)
  rw [lg_entry_eq]
  exact body p e s m _ below meth c _ (va_A w s.heap.size) B.exec B.bytes B.returns hml hown hts B.notSynchronized hP hK hD (fun q h => Or.inr h) va_S.rf hl hin
section ZROWS
variable {p : Program} {l : Launch} {e : Env} {R : Room} {s : State} {m : MethodId} {args : Array Value} {below : List Frame} {meth : Method} {c : Code} {H : Heap} {locs : List Loc} {cells slots : Nat} {Q : State → Prop}
variable {cc : ByteArray} {pc : Nat} {ls : Array Slot} {rest st0 st1 : List Value} {D : va_G} {y : Nat → ClassId} {A0 : Nat → Prop} {H0 : Heap}
/-! ends -/
theorem zR_i {rv : Option Value} {v : Int32} (hx : p.tables.exec = Jvm.exec) (hb : c.code = cc) (hr : meth.sig.returnType = some .int) (hlocks : meth.locks = false) (hdg : decode cc pc = .ok (.ireturn, 1)) (hv : some (Value.int v) = rv) : W p l e R s m args below meth c s.heap [] 0 0 (MQ below (zRQ rv) args s 0 0 (fun _ => False)) (F0 m pc ls [.int v]) := by
  subst hv
  exact W.iret hx hb hr (fun t ht _ => ⟨rfl, ht⟩) (fun q h => nomatch h) hdg hlocks
theorem zb_nar {v : Int32} (h : v = 0 ∨ v = 1) : narrow .boolean (.int v) = .int v := by rcases h with rfl | rfl <;> rfl
theorem zR_z {rv : Option Value} {v : Int32} (hx : p.tables.exec = Jvm.exec) (hb : c.code = cc) (hr : meth.sig.returnType = some .boolean) (hlocks : meth.locks = false) (hdg : decode cc pc = .ok (.ireturn, 1)) (h01 : v = 0 ∨ v = 1) (hv : some (Value.int v) = rv) : W p l e R s m args below meth c s.heap [] 0 0 (MQ below (zRQ rv) args s 0 0 (fun _ => False)) (F0 m pc ls [.int v]) := by
  subst hv
  exact W.zret hx hb hr (zb_nar h01) (fun t ht _ => ⟨rfl, ht⟩) (fun q h => nomatch h) hdg hlocks
theorem zR_l {rv : Option Value} {v : Int64} (hx : p.tables.exec = Jvm.exec) (hb : c.code = cc) (hr : meth.sig.returnType = some .long) (hlocks : meth.locks = false) (hdg : decode cc pc = .ok (.lreturn, 1)) (hv : some (Value.long v) = rv) : W p l e R s m args below meth c s.heap [] 0 0 (MQ below (zRQ rv) args s 0 0 (fun _ => False)) (F0 m pc ls [.long v]) := by
  subst hv
  exact W.lret hx hb hr (fun t ht _ => ⟨rfl, ht⟩) (fun q h => nomatch h) hdg hlocks
theorem zR_d {rv : Option Value} {v : UInt64} (hx : p.tables.exec = Jvm.exec) (hb : c.code = cc) (hr : meth.sig.returnType = some .double) (hlocks : meth.locks = false) (hdg : decode cc pc = .ok (.dreturn, 1)) (hv : some (Value.double v) = rv) : W p l e R s m args below meth c s.heap [] 0 0 (MQ below (zRQ rv) args s 0 0 (fun _ => False)) (F0 m pc ls [.double v]) := by
  subst hv
  exact W.dret hx hb hr (fun t ht _ => ⟨rfl, ht⟩) (fun q h => nomatch h) hdg hlocks
theorem zR_a {rv : Option Value} {v : Value} {o : String} (hx : p.tables.exec = Jvm.exec) (hb : c.code = cc) (hr : meth.sig.returnType = some (.object o)) (hlocks : meth.locks = false) (hdg : decode cc pc = .ok (.areturn, 1)) (hvv : v = .null ∨ ∃ a, v = .ref a) (hv : some v = rv) : W p l e R s m args below meth c s.heap [] 0 0 (MQ below (zRQ rv) args s 0 0 (fun _ => False)) (F0 m pc ls [v]) := by
  subst hv
  exact W.aret hx hb hr (Or.inl ⟨o, rfl⟩) hvv (fun t ht _ => ⟨rfl, ht⟩) (fun q h => nomatch h) hdg hlocks
theorem zM_i {rv : Option Value} {v : Int32} {A : Nat → Prop} {w1 : va_W} (hx : p.tables.exec = Jvm.exec) (hb : c.code = cc) (hr : meth.sig.returnType = some .int) (hlocks : meth.locks = false) (hS : va_S A s.heap H locs) (hdg : decode cc pc = .ok (.ireturn, 1)) (hv : some (Value.int v) = rv) (hP : va_P D vwCl w1 H) : W p l e R s m args below meth c H locs cells slots (MQ below (zMQ rv D w1 A) args s cells slots A) (F0 m pc ls [.int v]) := by
  subst hv
  exact W.iret hx hb hr (fun t ht _ => ⟨⟨rfl, by rw [ht]; exact hP⟩, hS.F ht⟩) hS.2.2 hdg hlocks
theorem zM_z {rv : Option Value} {v : Int32} {A : Nat → Prop} {w1 : va_W} (hx : p.tables.exec = Jvm.exec) (hb : c.code = cc) (hr : meth.sig.returnType = some .boolean) (hlocks : meth.locks = false) (hS : va_S A s.heap H locs) (hdg : decode cc pc = .ok (.ireturn, 1)) (h01 : v = 0 ∨ v = 1) (hv : some (Value.int v) = rv) (hP : va_P D vwCl w1 H) : W p l e R s m args below meth c H locs cells slots (MQ below (zMQ rv D w1 A) args s cells slots A) (F0 m pc ls [.int v]) := by
  subst hv
  exact W.zret hx hb hr (zb_nar h01) (fun t ht _ => ⟨⟨rfl, by rw [ht]; exact hP⟩, hS.F ht⟩) hS.2.2 hdg hlocks
theorem zM_l {rv : Option Value} {v : Int64} {A : Nat → Prop} {w1 : va_W} (hx : p.tables.exec = Jvm.exec) (hb : c.code = cc) (hr : meth.sig.returnType = some .long) (hlocks : meth.locks = false) (hS : va_S A s.heap H locs) (hdg : decode cc pc = .ok (.lreturn, 1)) (hv : some (Value.long v) = rv) (hP : va_P D vwCl w1 H) : W p l e R s m args below meth c H locs cells slots (MQ below (zMQ rv D w1 A) args s cells slots A) (F0 m pc ls [.long v]) := by
  subst hv
  exact W.lret hx hb hr (fun t ht _ => ⟨⟨rfl, by rw [ht]; exact hP⟩, hS.F ht⟩) hS.2.2 hdg hlocks
theorem zM_v {rv : Option Value} {A : Nat → Prop} {w1 : va_W} (hx : p.tables.exec = Jvm.exec) (hb : c.code = cc) (hr : meth.sig.returnType = none) (hlocks : meth.locks = false) (hS : va_S A s.heap H locs) (hdg : decode cc pc = .ok (.return_, 1)) (hv : none = rv) (hP : va_P D vwCl w1 H) : W p l e R s m args below meth c H locs cells slots (MQ below (zMQ rv D w1 A) args s cells slots A) (F0 m pc ls []) := by
  subst hv
  exact W.vret hx hb hr (fun t ht _ => ⟨⟨rfl, by rw [ht]; exact hP⟩, hS.F ht⟩) hS.2.2 hdg hlocks
theorem zM_a {rv : Option Value} {v : Value} {o : String} {A : Nat → Prop} {w1 : va_W} (hx : p.tables.exec = Jvm.exec) (hb : c.code = cc) (hr : meth.sig.returnType = some (.object o)) (hlocks : meth.locks = false) (hS : va_S A s.heap H locs) (hdg : decode cc pc = .ok (.areturn, 1)) (hvv : v = .null ∨ ∃ a, v = .ref a) (hv : some v = rv) (hP : va_P D vwCl w1 H) : W p l e R s m args below meth c H locs cells slots (MQ below (zMQ rv D w1 A) args s cells slots A) (F0 m pc ls [v]) := by
  subst hv
  exact W.aret hx hb hr (Or.inl ⟨o, rfl⟩) hvv (fun t ht _ => ⟨⟨rfl, by rw [ht]; exact hP⟩, hS.F ht⟩) hS.2.2 hdg hlocks
/-! a number on top of the stack, by another name -/
theorem zt_i {x x' : Int32} (h : x = x') (k : W p l e R s m args below meth c H locs cells slots Q (F0 m pc ls (.int x' :: rest))) : W p l e R s m args below meth c H locs cells slots Q (F0 m pc ls (.int x :: rest)) := by subst h; exact k
theorem zt_l {x x' : Int64} (h : x = x') (k : W p l e R s m args below meth c H locs cells slots Q (F0 m pc ls (.long x' :: rest))) : W p l e R s m args below meth c H locs cells slots Q (F0 m pc ls (.long x :: rest)) := by subst h; exact k
/-! rows -/
theorem z_ald (hx : p.tables.exec = Jvm.exec) (hb : c.code = cc) {ws : va_W} (hK : va_K D vwCl (tyL y) s) (hP : va_P D vwCl ws H) {a : Nat} (q0 : Nat) {n : Nat} {f : Nat → Int32} (ha : ws[q0]? = some (a, .inl (y 0, n, .inl f))) {i : Int32} (k : Nat) (hi : i = nI k) (hk : k < n) (hn : n < 2 ^ 31) (hdg : decode cc pc = .ok (.iaload, 1))
    (kk : W p l e R s m args below meth c H locs cells slots Q (F0 m (pc + 1) ls (.int (f k) :: rest))) : W p l e R s m args below meth c H locs cells slots Q (F0 m pc ls (.int i :: .ref a :: rest)) := by
  subst hi
  refine va_iald hx hb hK hP q0 0 ha rfl (vp_in_nI hk hn) hdg ?_
  rw [nI_clamp (Nat.lt_trans hk hn)]
  exact kk
theorem z_ast (hx : p.tables.exec = Jvm.exec) (hb : c.code = cc) {ws ws1 : va_W} (hK : va_K D vwCl (tyL y) s) (hP : va_P D vwCl ws H) (hD : va_D A0 ws) (hS : va_S A0 H0 H locs) {a : Nat} (q0 : Nat) {n : Nat} {f : Nat → Int32} (ha : ws[q0]? = some (a, .inl (y 0, n, .inl f))) {i x : Int32} (k : Nat) (hi : i = nI k) (hk : k < n) (hn : n < 2 ^ 31) (hset : ws.set q0 (a, .inl (y 0, n, .inl (upd f k x))) = ws1) (hdg : decode cc pc = .ok (.iastore, 1))
    (kk : ∀ (H1 : Heap) (locs1 : List Loc), va_P D vwCl ws1 H1 → va_D A0 ws1 → va_S A0 H0 H1 locs1 → W p l e R s m args below meth c H1 locs1 cells slots Q (F0 m (pc + 1) ls rest)) : W p l e R s m args below meth c H locs cells slots Q (F0 m pc ls (.int x :: .int i :: .ref a :: rest)) := by
  subst hi; subst hset
  refine va_iast hx hb hK hP hD hS q0 0 ha rfl (vp_in_nI hk hn) hdg ?_
  rw [nI_clamp (Nat.lt_trans hk hn)]
  exact kk
theorem z_aldq (hx : p.tables.exec = Jvm.exec) (hb : c.code = cc) {ws : va_W} (hK : va_K D vwCl (tyL y) s) (hP : va_P D vwCl ws H) {a : Nat} (q0 t0 : Nat) {n j : Nat} {C : String} {f : Nat → Option Nat} (ha : ws[q0]? = some (a, .inl (y j, n, .inr (.inr (.inr (.inr f)))))) (ht : (tyL y)[t0]? = some (y j, .object C)) {i : Int32} (k b : Nat) (hi : i = nI k) (hk : k < n) (hn : n < 2 ^ 31) (hf : f k = some b) (hdg : decode cc pc = .ok (.aaload, 1))
    (kk : W p l e R s m args below meth c H locs cells slots Q (F0 m (pc + 1) ls (.ref b :: rest))) : W p l e R s m args below meth c H locs cells slots Q (F0 m pc ls (.int i :: .ref a :: rest)) := by
  subst hi
  refine va_aldq hx hb hK hP q0 t0 ha ht (vp_in_nI hk hn) hdg ?_
  rw [nI_clamp (Nat.lt_trans hk hn), hf]
  exact kk
end ZROWS
/-! parts of a world, and what comes back put beside the rest -/
theorem z_sub_P {D : va_G} {ws w : va_W} {H : Heap} (hP : va_P D vwCl ws H) (hs : ∀ x, x ∈ w → x ∈ ws) : va_P D vwCl w H := by
  intro k q hk
  obtain ⟨i, hi⟩ := List.getElem?_of_mem (hs q (List.mem_of_getElem? hk))
  exact hP i q hi
theorem z_sub_F {A0 : Nat → Prop} {ws w : va_W} {H0 H : Heap} {locs : List Loc} (hD : va_D A0 ws) (hS : va_S A0 H0 H locs) (hA : ∀ q : Nat, H0.size ≤ q → A0 q) (hs : ∀ x, x ∈ w → x ∈ ws) : ∀ q : Nat, va_A w H.size q → A0 q := by
  intro q h
  rcases h with ⟨k, e, h⟩ | h
  · obtain ⟨i, hi⟩ := List.getElem?_of_mem (hs _ (List.mem_of_getElem? h))
    exact hD.2 i _ hi
  · exact hA q (Nat.le_trans hS.1 h)
theorem z_in_1 {ws : va_W} {k : Nat} {x : Nat × va_E} (h : ws[k]? = some x) : ∀ z, z ∈ [x] → z ∈ ws := fun z hz => by
  rw [List.mem_singleton.mp hz]
  exact List.mem_of_getElem? h
theorem z_in_m {l1 w l2 : va_W} : ∀ z, z ∈ w → z ∈ l1 ++ (w ++ l2) := fun _ hz => List.mem_append_right _ (List.mem_append_left _ hz)
theorem z_in_r {w : va_W} : ∀ z, z ∈ w → z ∈ w := fun _ hz => hz
theorem z_D_1 {x : Nat × va_E} : va_D (fun _ => True) [x] := by
  refine ⟨fun i j p q hi hj _ => ?_, fun _ _ _ => trivial⟩
  have h1 : i < [x].length := (List.getElem?_eq_some_iff.mp hi).1
  have h2 : j < [x].length := (List.getElem?_eq_some_iff.mp hj).1
  simp at h1 h2
  omega
theorem z_D_T {A : Nat → Prop} {w : va_W} (h : va_D A w) : va_D (fun _ => True) w := ⟨h.1, fun _ _ _ => trivial⟩
theorem z_D_m {A : Nat → Prop} {l1 w l2 : va_W} (h : va_D A (l1 ++ (w ++ l2))) : va_D (fun _ => True) w := by
  have key : ∀ (i : Nat) (q : Nat × va_E), w[i]? = some q → (l1 ++ (w ++ l2))[l1.length + i]? = some q := by
    intro i q hi
    have hl := (List.getElem?_eq_some_iff.mp hi).1
    rw [List.getElem?_append_right (Nat.le_add_right _ _), Nat.add_sub_cancel_left, List.getElem?_append_left hl]
    exact hi
  refine ⟨fun i j p q hi hj hpq => ?_, fun _ _ _ => trivial⟩
  have := h.1 _ _ p q (key i p hi) (key j q hj) hpq
  omega
theorem z_D_adr {A : Nat → Prop} {ws ws1 : va_W} (hD : va_D A ws) (ha : ws1.map Prod.fst = ws.map Prod.fst) : va_D A ws1 := by
  have key : ∀ (k : Nat) (q : Nat × va_E), ws1[k]? = some q → ∃ q0, ws[k]? = some q0 ∧ q0.1 = q.1 := by
    intro k q hk
    have h1 : (ws1.map Prod.fst)[k]? = some q.1 := by rw [List.getElem?_map, hk]; rfl
    rw [ha, List.getElem?_map] at h1
    cases h2 : ws[k]? with
    | none => rw [h2] at h1; cases h1
    | some q0 => rw [h2] at h1; exact ⟨q0, rfl, Option.some.inj h1⟩
  refine ⟨fun i j x z hi hj hxz => ?_, fun k q hk => ?_⟩
  · obtain ⟨x0, h1, h2⟩ := key i x hi
    obtain ⟨z0, h3, h4⟩ := key j z hj
    exact hD.1 i j x0 z0 h1 h3 (h2.trans (hxz.trans h4.symm))
  · obtain ⟨q0, h1, h2⟩ := key k q hk
    rw [← h2]
    exact hD.2 k q0 h1
theorem z_one {D : va_G} {A0 : Nat → Prop} {ws ws1 : va_W} {H H1 : Heap} {k a : Nat} {e e' : va_E} (hP : va_P D vwCl ws H) (hD : va_D A0 ws) (hk : ws[k]? = some (a, e)) (hset : ws.set k (a, e') = ws1) (hP1 : va_P D vwCl [(a, e')] H1) (hfr : ∀ q : Nat, q < H.size → ¬ va_A [(a, e)] H.size q → H1[q]? = H[q]?) : va_P D vwCl ws1 H1 ∧ va_D A0 ws1 := by
  subst hset
  refine ⟨?_, hD.set hk⟩
  intro j q hj
  by_cases hjk : j = k
  · subst hjk
    have hl := (List.getElem?_eq_some_iff.mp hk).1
    rw [List.getElem?_set_self hl] at hj
    cases hj
    exact hP1 0 _ rfl
  · rw [List.getElem?_set_ne (Ne.symm hjk)] at hj
    have h1 := hP j q hj
    refine h1.kept (hfr q.1 h1.lt ?_)
    intro h9
    rcases h9 with ⟨i, e9, h9⟩ | h9
    · have h10 := List.mem_singleton.mp (List.mem_of_getElem? h9)
      exact hjk (hD.1 j k q (a, e) hj hk (show q.1 = a from congrArg Prod.fst h10))
    · exact absurd h1.lt (Nat.not_lt.mpr h9)
theorem z_seg {D : va_G} {A0 : Nat → Prop} {ws ws1 l1 w w1 l2 : va_W} {H H1 : Heap} (hP : va_P D vwCl ws H) (hD : va_D A0 ws) (e0 : ws = l1 ++ (w ++ l2)) (e1 : l1 ++ (w1 ++ l2) = ws1) (had : w1.map Prod.fst = w.map Prod.fst) (hP1 : va_P D vwCl w1 H1) (hfr : ∀ q : Nat, q < H.size → ¬ va_A w H.size q → H1[q]? = H[q]?) : va_P D vwCl ws1 H1 ∧ va_D A0 ws1 := by
  subst e0; subst e1
  have hlen : w1.length = w.length := by
    have := congrArg List.length had
    simpa using this
  refine ⟨?_, z_D_adr hD (by simp [had])⟩
  have far : ∀ (j : Nat) (q : Nat × va_E), (l1 ++ (w ++ l2))[j]? = some q → (j < l1.length ∨ l1.length + w.length ≤ j) → va_at D vwCl q H1 := by
    intro j q hj hout
    have h1 := hP j q hj
    refine h1.kept (hfr q.1 h1.lt ?_)
    intro h9
    rcases h9 with ⟨i, e9, h9⟩ | h9
    · have hl := (List.getElem?_eq_some_iff.mp h9).1
      have h10 : (l1 ++ (w ++ l2))[l1.length + i]? = some (q.1, e9) := by
        rw [List.getElem?_append_right (Nat.le_add_right _ _), Nat.add_sub_cancel_left, List.getElem?_append_left hl]
        exact h9
      have := hD.1 j (l1.length + i) q (q.1, e9) hj h10 rfl
      omega
    · exact absurd h1.lt (Nat.not_lt.mpr h9)
  intro j q hj
  by_cases ha : j < l1.length
  · refine far j q ?_ (Or.inl ha)
    rw [List.getElem?_append_left ha] at hj ⊢
    exact hj
  · rw [List.getElem?_append_right (Nat.not_lt.mp ha)] at hj
    by_cases hb : j - l1.length < w1.length
    · rw [List.getElem?_append_left hb] at hj
      exact hP1 _ q hj
    · refine far j q ?_ (Or.inr (by omega))
      rw [List.getElem?_append_right (Nat.not_lt.mp hb)] at hj
      rw [List.getElem?_append_right (Nat.not_lt.mp ha), List.getElem?_append_right (by omega), ← hlen]
      exact hj
end
section
/-! calls by contract -/
section ZCALLS
variable {p : Program} {l : Launch} {e : Env} {R : Room} {s : State} {m : MethodId} {args : Array Value} {below : List Frame} {meth : Method} {c : Code} {H : Heap} {locs : List Loc} {cells slots cells1 slots1 : Nat} {Q : State → Prop}
variable {cc : ByteArray} {pc : Nat} {ls : Array Slot} {rest st0 st1 : List Value} {D : va_G} {y : Nat → ClassId} {A0 : Nat → Prop} {H0 : Heap} {a : Array Value}
variable {n : MethodName} {bytes : ByteArray} {maxL nL mc ms k index : Nat} {ret : Option FieldType} {ws : List Cond} {rm : Room} {Ts : List Cond} {own C : String} {b : Nat} {As : List Value} {w w1 : va_W} {rv : Option Value}
theorem zRun_R (hr : va_Run p l e R s m args below meth c H locs cells slots 0 0 (F0 m pc ls st0) rest (zRQ rv a) (fun _ => False)) (hst1 : rv.toList ++ rest = st1)
    (kk : W p l e R s m args below meth c H locs cells slots Q (F0 m (pc + 3) ls st1)) : W p l e R s m args below meth c H locs cells slots Q (F0 m pc ls st0) := by
  subst hst1
  intro T hT X
  obtain ⟨v, st₀, t, T', L, h0, X', hL, e1, e2, ⟨hv, hh⟩, st⟩ := hr T hT X
  cases hv
  obtain ⟨t2, a1, b1⟩ := kk T' (by rw [e1, hh, h0]) (Stand.forget X' (fun q h => (hL q h).elim))
  exact ⟨t2, st t2 a1, b1⟩
theorem zRun_M {A1 : Nat → Prop} {free : Addr → Prop} (hr : va_Run p l e R s m args below meth c H locs cells slots mc ms (F0 m pc ls st0) rest (zMQ rv D w1 A1 a) free) (hst1 : rv.toList ++ rest = st1) (hc1 : cells + mc = cells1) (hs1 : slots + ms = slots1) (hS : va_S A0 H0 H locs) (hA : ∀ q : Nat, A1 q → A0 q) (hf : ∀ q, free q → A0 q)
    (kk : ∀ (H1 : Heap) (locs1 : List Loc), va_P D vwCl w1 H1 → H.size ≤ H1.size → (∀ q : Nat, q < H.size → ¬ A1 q → H1[q]? = H[q]?) → va_S A0 H0 H1 locs1 → W p l e R s m args below meth c H1 locs1 cells1 slots1 Q (F0 m (pc + 3) ls st1)) : W p l e R s m args below meth c H locs cells slots Q (F0 m pc ls st0) := by
  subst hst1; subst hc1; subst hs1
  intro T hT X
  obtain ⟨v, st₀, t, T', L, h0, X', hL, e1, e2, ⟨⟨hv, hp⟩, hz, hk⟩, st⟩ := hr T hT X
  cases hv
  rw [h0] at hz hk
  obtain ⟨t2, a1, b1⟩ := kk T'.heap (locs ++ L) (by rw [e1]; exact hp) (by rw [e1]; exact hz) (fun q h1 h2 => by rw [e1]; exact hk q h1 h2)
    ⟨Nat.le_trans hS.1 (by rw [e1]; exact hz), fun q h1 h2 => by rw [e1, hk q (Nat.lt_of_lt_of_le h1 hS.1) (fun z => h2 (hA q z))]; exact hS.2.1 q h1 h2, fun q hq => by
      rcases List.mem_append.mp hq with h | h
      · exact hS.2.2 q h
      · exact hf _ (hL q h)⟩ T' rfl X'
  exact ⟨t2, st t2 a1, b1⟩
theorem zcRV (S : CallFix p m c cc nL s args Ts own) (hM : zR l n ws rm D y (.ref b :: As) w rv) (cw : CallW R s args own C index n bytes maxL ret ws rm 0 0 k) (hK : va_K D vwCl (tyL y) s) (hP : va_P D vwCl w H) {ci q0 : Nat} {qc : vw_C} {fs : List Value} (hc : vwCl[ci]? = some qc) (hcC : qc.1 = C) (he : w[q0]? = some (b, .inr (ci, fs))) (hn : As.length = k) (hsz : ls.size = nL) (hst : st0 = As.reverse ++ .ref b :: rest) (hW : 2 * (F0 m pc ls (As.reverse ++ .ref b :: rest)).monitorRoom + (rest.map fun v => v.category).sum ≤ 8) (hdg : decode cc pc = .ok (.invokevirtual index, 3)) (hf : cells ≤ R.cells ∧ slots ≤ R.slots) (hst1 : rv.toList ++ rest = st1)
    (kk : W p l e R s m args below meth c H locs cells slots Q (F0 m (pc + 3) ls st1)) : W p l e R s m args below meth c H locs cells slots Q (F0 m pc ls st0) := by
  subst hst
  exact zRun_R (va_runV (As := As) (rest := rest) (g := F0 m pc ls (As.reverse ++ .ref b :: rest)) (locs := locs) S hM cw ⟨zRP_blind, by subst hcC; exact va_recv hK hP hc he, fun U hU hW => ⟨rfl, by rw [hU]; exact hP, va_K.moved hW.alike hK⟩⟩ rfl hn hsz rfl hW hdg ⟨hf.1, hf.2⟩) hst1 kk
theorem zcRS (S : CallFix p m c cc nL s args Ts own) (hM : zR l n ws rm D y As w rv) (cw : CallB R s args own index n bytes maxL ret ws rm 0 0 k ∧ (Cond.static n).before args s = true) (hK : va_K D vwCl (tyL y) s) (hP : va_P D vwCl w H) (hn : As.length = k) (hsz : ls.size = nL) (hst : st0 = As.reverse ++ rest) (hW : 2 * (F0 m pc ls (As.reverse ++ rest)).monitorRoom + (rest.map fun v => v.category).sum ≤ 8) (hdg : decode cc pc = .ok (.invokestatic index, 3)) (hf : cells ≤ R.cells ∧ slots ≤ R.slots) (hst1 : rv.toList ++ rest = st1)
    (kk : W p l e R s m args below meth c H locs cells slots Q (F0 m (pc + 3) ls st1)) : W p l e R s m args below meth c H locs cells slots Q (F0 m pc ls st0) := by
  subst hst
  exact zRun_R (va_runS (As := As) (rest := rest) (g := F0 m pc ls (As.reverse ++ rest)) (locs := locs) S hM cw ⟨zRP_blind, fun U hU hW => ⟨rfl, by rw [hU]; exact hP, va_K.moved hW.alike hK⟩⟩ rfl hn hsz rfl hW hdg ⟨hf.1, hf.2⟩) hst1 kk
theorem zcMV (S : CallFix p m c cc nL s args Ts own) (hM : zM l n ws rm D y (.ref b :: As) w H.size rv w1 mc ms) (cw : CallW R s args own C index n bytes maxL ret ws rm mc ms k) (hK : va_K D vwCl (tyL y) s) (hP : va_P D vwCl w H) (hD : va_D (fun _ => True) w) {ci q0 : Nat} {qc : vw_C} {fs : List Value} (hc : vwCl[ci]? = some qc) (hcC : qc.1 = C) (he : w[q0]? = some (b, .inr (ci, fs))) (hn : As.length = k) (hsz : ls.size = nL) (hst : st0 = As.reverse ++ .ref b :: rest) (hW : 2 * (F0 m pc ls (As.reverse ++ .ref b :: rest)).monitorRoom + (rest.map fun v => v.category).sum ≤ 8) (hdg : decode cc pc = .ok (.invokevirtual index, 3)) (hS : va_S A0 H0 H locs) (hF : ∀ q : Nat, va_A w H.size q → A0 q) (hf : cells + mc ≤ R.cells ∧ slots + ms ≤ R.slots) (hst1 : rv.toList ++ rest = st1) (hc1 : cells + mc = cells1) (hs1 : slots + ms = slots1)
    (kk : ∀ (H1 : Heap) (locs1 : List Loc), va_P D vwCl w1 H1 → H.size ≤ H1.size → (∀ q : Nat, q < H.size → ¬ va_A w H.size q → H1[q]? = H[q]?) → va_S A0 H0 H1 locs1 → W p l e R s m args below meth c H1 locs1 cells1 slots1 Q (F0 m (pc + 3) ls st1)) : W p l e R s m args below meth c H locs cells slots Q (F0 m pc ls st0) := by
  subst hst
  exact zRun_M (va_runV (As := As) (rest := rest) (g := F0 m pc ls (As.reverse ++ .ref b :: rest)) (locs := locs) S hM cw ⟨zMP_blind, by subst hcC; exact va_recv hK hP hc he, fun U hU hW => ⟨rfl, by rw [hU], by rw [hU]; exact hP, va_K.moved hW.alike hK, hD⟩⟩ rfl hn hsz rfl hW hdg ⟨hf.1, hf.2⟩) hst1 hc1 hs1 hS hF hF kk
theorem zcMS (S : CallFix p m c cc nL s args Ts own) (hM : zM l n ws rm D y As w H.size rv w1 mc ms) (cw : CallB R s args own index n bytes maxL ret ws rm mc ms k ∧ (Cond.static n).before args s = true) (hK : va_K D vwCl (tyL y) s) (hP : va_P D vwCl w H) (hD : va_D (fun _ => True) w) (hn : As.length = k) (hsz : ls.size = nL) (hst : st0 = As.reverse ++ rest) (hW : 2 * (F0 m pc ls (As.reverse ++ rest)).monitorRoom + (rest.map fun v => v.category).sum ≤ 8) (hdg : decode cc pc = .ok (.invokestatic index, 3)) (hS : va_S A0 H0 H locs) (hF : ∀ q : Nat, va_A w H.size q → A0 q) (hf : cells + mc ≤ R.cells ∧ slots + ms ≤ R.slots) (hst1 : rv.toList ++ rest = st1) (hc1 : cells + mc = cells1) (hs1 : slots + ms = slots1)
    (kk : ∀ (H1 : Heap) (locs1 : List Loc), va_P D vwCl w1 H1 → H.size ≤ H1.size → (∀ q : Nat, q < H.size → ¬ va_A w H.size q → H1[q]? = H[q]?) → va_S A0 H0 H1 locs1 → W p l e R s m args below meth c H1 locs1 cells1 slots1 Q (F0 m (pc + 3) ls st1)) : W p l e R s m args below meth c H locs cells slots Q (F0 m pc ls st0) := by
  subst hst
  exact zRun_M (va_runS (As := As) (rest := rest) (g := F0 m pc ls (As.reverse ++ rest)) (locs := locs) S hM cw ⟨zMP_blind, fun U hU hW => ⟨rfl, by rw [hU], by rw [hU]; exact hP, va_K.moved hW.alike hK, hD⟩⟩ rfl hn hsz rfl hW hdg ⟨hf.1, hf.2⟩) hst1 hc1 hs1 hS hF hF kk
theorem zcMI (S : CallFix p m c cc nL s args Ts own) (hM : zM l n ws rm D y (.ref b :: As) w H.size rv w1 mc ms) (cw : CallB R s args own index n bytes maxL none ws rm mc ms k ∧ n.name = "<init>" ∧ (Cond.instanceMethod n).before args s = true) (hK : va_K D vwCl (tyL y) s) (hP : va_P D vwCl w H) (hD : va_D (fun _ => True) w) (hn : As.length = k) (hsz : ls.size = nL) (hst : st0 = As.reverse ++ .ref b :: rest) (hW : 2 * (F0 m pc ls (As.reverse ++ .ref b :: rest)).monitorRoom + (rest.map fun v => v.category).sum ≤ 8) (hdg : decode cc pc = .ok (.invokespecial index, 3)) (hS : va_S A0 H0 H locs) (hF : ∀ q : Nat, va_A w H.size q → A0 q) (hf : cells + mc ≤ R.cells ∧ slots + ms ≤ R.slots) (hst1 : rv.toList ++ rest = st1) (hc1 : cells + mc = cells1) (hs1 : slots + ms = slots1)
    (kk : ∀ (H1 : Heap) (locs1 : List Loc), va_P D vwCl w1 H1 → H.size ≤ H1.size → (∀ q : Nat, q < H.size → ¬ va_A w H.size q → H1[q]? = H[q]?) → va_S A0 H0 H1 locs1 → W p l e R s m args below meth c H1 locs1 cells1 slots1 Q (F0 m (pc + 3) ls st1)) : W p l e R s m args below meth c H locs cells slots Q (F0 m pc ls st0) := by
  subst hst
  exact zRun_M (va_runI (As := As) (rest := rest) (g := F0 m pc ls (As.reverse ++ .ref b :: rest)) (locs := locs) S hM cw ⟨zMP_blind, fun U hU hW => ⟨rfl, by rw [hU], by rw [hU]; exact hP, va_K.moved hW.alike hK, hD⟩⟩ rfl hn hsz rfl hW hdg ⟨hf.1, hf.2⟩) hst1 hc1 hs1 hS hF hF kk
end ZCALLS
end
section
/-! a state in numbers. q j k: what weir k holds (0 place, 1 stakes, 2 wattle, 3 rent, 4 coins, 5 eels, 6 open, 7 owed); b j k: barge k (0 its ticket, 1 its width, 2 its place, 3 how many it broke) -/
abbrev Fld : Type := Nat → Nat → Int32
def up2 (q : Fld) (j k : Nat) (x : Int32) : Fld := fun a => if a = j then upd (q j) k x else q a
def qF (q : Fld) (k : Nat) : List Value := [.int (q 0 k), .int (q 1 k), .int (q 2 k), .int (q 3 k), .int (q 4 k), .int (q 5 k), .int (q 6 k), .int (q 7 k)]
def bF (b : Fld) (k : Nat) : List Value := [.int (b 0 k), .int (b 1 k), .int (b 2 k), .int (b 3 k)]
theorem up2_s (q : Fld) (j k : Nat) (x : Int32) : up2 q j k x j k = x := by simp [up2, upd]
theorem up2_j (q : Fld) (j k a i : Nat) (x : Int32) (h : a ≠ j) : up2 q j k x a i = q a i := by simp [up2, h]
theorem up2_k (q : Fld) (j k a i : Nat) (x : Int32) (h : i ≠ k) : up2 q j k x a i = q a i := by
  by_cases ha : a = j
  · subst ha; simp [up2, upd, h]
  · simp [up2, ha]
theorem up2_id (q : Fld) (j k : Nat) : up2 q j k (q j k) = q := by
  funext a i
  by_cases hi : i = k
  · subst hi
    by_cases ha : a = j
    · subst ha; exact up2_s ..
    · exact up2_j _ _ _ _ _ _ ha
  · exact up2_k _ _ _ _ _ _ hi
theorem up2_2 (q : Fld) (j k : Nat) (x z : Int32) : up2 (up2 q j k x) j k z = up2 q j k z := by
  funext a i
  by_cases hi : i = k
  · subst hi
    by_cases ha : a = j
    · subst ha; rw [up2_s, up2_s]
    · rw [up2_j _ _ _ _ _ _ ha, up2_j _ _ _ _ _ _ ha, up2_j _ _ _ _ _ _ ha]
  · rw [up2_k _ _ _ _ _ _ hi, up2_k _ _ _ _ _ _ hi, up2_k _ _ _ _ _ _ hi]
theorem up2_0 (f : Nat → Int32) (k : Nat) : upd f k (f k) = f := by
  funext i
  by_cases hi : i = k
  · subst hi; simp [upd]
  · simp [upd, hi]
theorem qF_0 (q : Fld) (k : Nat) (x : Int32) : (qF q k).set 0 (.int x) = qF (up2 q 0 k x) k := by simp [qF, up2, upd]
theorem qF_1 (q : Fld) (k : Nat) (x : Int32) : (qF q k).set 1 (.int x) = qF (up2 q 1 k x) k := by simp [qF, up2, upd]
theorem qF_2 (q : Fld) (k : Nat) (x : Int32) : (qF q k).set 2 (.int x) = qF (up2 q 2 k x) k := by simp [qF, up2, upd]
theorem qF_3 (q : Fld) (k : Nat) (x : Int32) : (qF q k).set 3 (.int x) = qF (up2 q 3 k x) k := by simp [qF, up2, upd]
theorem qF_4 (q : Fld) (k : Nat) (x : Int32) : (qF q k).set 4 (.int x) = qF (up2 q 4 k x) k := by simp [qF, up2, upd]
theorem qF_5 (q : Fld) (k : Nat) (x : Int32) : (qF q k).set 5 (.int x) = qF (up2 q 5 k x) k := by simp [qF, up2, upd]
theorem qF_6 (q : Fld) (k : Nat) (x : Int32) : (qF q k).set 6 (.int x) = qF (up2 q 6 k x) k := by simp [qF, up2, upd]
theorem qF_7 (q : Fld) (k : Nat) (x : Int32) : (qF q k).set 7 (.int x) = qF (up2 q 7 k x) k := by simp [qF, up2, upd]
theorem bF_0 (q : Fld) (k : Nat) (x : Int32) : (bF q k).set 0 (.int x) = bF (up2 q 0 k x) k := by simp [bF, up2, upd]
theorem bF_1 (q : Fld) (k : Nat) (x : Int32) : (bF q k).set 1 (.int x) = bF (up2 q 1 k x) k := by simp [bF, up2, upd]
theorem bF_2 (q : Fld) (k : Nat) (x : Int32) : (bF q k).set 2 (.int x) = bF (up2 q 2 k x) k := by simp [bF, up2, upd]
theorem bF_3 (q : Fld) (k : Nat) (x : Int32) : (bF q k).set 3 (.int x) = bF (up2 q 3 k x) k := by simp [bF, up2, upd]
/-- the world of an Estuary: 16 cells, at E 0 .. E 15 -/
def eW (E : Nat → Nat) (y : Nat → ClassId) (t : Nat → Int32) (o : Nat → Nat) (q b : Fld) (c bc n : Nat) (ar fi re : Int32) : va_W :=
  [(E 0, .inr (1, [.ref (E 1), .ref (E 2), .ref (E 3), .ref (E 4), .int (nI c), .int (nI bc), .int (nI n), .int ar, .int fi, .int re])),
   (E 1, .inl (y 0, 7, .inl t)),
   (E 2, .inl (y 1, 6, .inr (.inr (.inr (.inr (fun i => some (E (5 + i)))))))),
   (E 3, .inl (y 0, 6, .inl (fun i => nI (o i)))),
   (E 4, .inl (y 2, 5, .inr (.inr (.inr (.inr (fun i => some (E (11 + i)))))))),
   (E 5, .inr (2, qF q 0)), (E 6, .inr (2, qF q 1)), (E 7, .inr (2, qF q 2)), (E 8, .inr (2, qF q 3)), (E 9, .inr (2, qF q 4)), (E 10, .inr (2, qF q 5)),
   (E 11, .inr (0, bF b 0)), (E 12, .inr (0, bF b 1)), (E 13, .inr (0, bF b 2)), (E 14, .inr (0, bF b 3)), (E 15, .inr (0, bF b 4))]
theorem eW_w {E : Nat → Nat} {y : Nat → ClassId} {t : Nat → Int32} {o : Nat → Nat} {q b : Fld} {c bc n : Nat} {ar fi re : Int32} {k : Nat} (hk : k < 6) : (eW E y t o q b c bc n ar fi re)[5 + k]? = some (E (5 + k), .inr (2, qF q k)) := by
  rcases (show k = 0 ∨ k = 1 ∨ k = 2 ∨ k = 3 ∨ k = 4 ∨ k = 5 by omega) with rfl | rfl | rfl | rfl | rfl | rfl
  · rfl
  · rfl
  · rfl
  · rfl
  · rfl
  · rfl
theorem eW_b {E : Nat → Nat} {y : Nat → ClassId} {t : Nat → Int32} {o : Nat → Nat} {q b : Fld} {c bc n : Nat} {ar fi re : Int32} {k : Nat} (hk : k < 5) : (eW E y t o q b c bc n ar fi re)[11 + k]? = some (E (11 + k), .inr (0, bF b k)) := by
  rcases (show k = 0 ∨ k = 1 ∨ k = 2 ∨ k = 3 ∨ k = 4 by omega) with rfl | rfl | rfl | rfl | rfl
  · rfl
  · rfl
  · rfl
  · rfl
  · rfl
theorem eW_setw {E : Nat → Nat} {y : Nat → ClassId} {t : Nat → Int32} {o : Nat → Nat} {q b : Fld} {c bc n : Nat} {ar fi re : Int32} {q' : Fld} {k : Nat} (hk : k < 6) (h : ∀ j i, i ≠ k → q' j i = q j i) : (eW E y t o q b c bc n ar fi re).set (5 + k) (E (5 + k), .inr (2, qF q' k)) = eW E y t o q' b c bc n ar fi re := by
  have e : ∀ i, i ≠ k → qF q' i = qF q i := fun i hi => by unfold qF; rw [h 0 i hi, h 1 i hi, h 2 i hi, h 3 i hi, h 4 i hi, h 5 i hi, h 6 i hi, h 7 i hi]
  rcases (show k = 0 ∨ k = 1 ∨ k = 2 ∨ k = 3 ∨ k = 4 ∨ k = 5 by omega) with rfl | rfl | rfl | rfl | rfl | rfl
  · unfold eW; rw [e 1 (by decide), e 2 (by decide), e 3 (by decide), e 4 (by decide), e 5 (by decide)]; rfl
  · unfold eW; rw [e 0 (by decide), e 2 (by decide), e 3 (by decide), e 4 (by decide), e 5 (by decide)]; rfl
  · unfold eW; rw [e 0 (by decide), e 1 (by decide), e 3 (by decide), e 4 (by decide), e 5 (by decide)]; rfl
  · unfold eW; rw [e 0 (by decide), e 1 (by decide), e 2 (by decide), e 4 (by decide), e 5 (by decide)]; rfl
  · unfold eW; rw [e 0 (by decide), e 1 (by decide), e 2 (by decide), e 3 (by decide), e 5 (by decide)]; rfl
  · unfold eW; rw [e 0 (by decide), e 1 (by decide), e 2 (by decide), e 3 (by decide), e 4 (by decide)]; rfl
theorem eW_setb {E : Nat → Nat} {y : Nat → ClassId} {t : Nat → Int32} {o : Nat → Nat} {q b : Fld} {c bc n : Nat} {ar fi re : Int32} {b' : Fld} {k : Nat} (hk : k < 5) (h : ∀ j i, i ≠ k → b' j i = b j i) : (eW E y t o q b c bc n ar fi re).set (11 + k) (E (11 + k), .inr (0, bF b' k)) = eW E y t o q b' c bc n ar fi re := by
  have e : ∀ i, i ≠ k → bF b' i = bF b i := fun i hi => by unfold bF; rw [h 0 i hi, h 1 i hi, h 2 i hi, h 3 i hi]
  rcases (show k = 0 ∨ k = 1 ∨ k = 2 ∨ k = 3 ∨ k = 4 by omega) with rfl | rfl | rfl | rfl | rfl
  · unfold eW; rw [e 1 (by decide), e 2 (by decide), e 3 (by decide), e 4 (by decide)]; rfl
  · unfold eW; rw [e 0 (by decide), e 2 (by decide), e 3 (by decide), e 4 (by decide)]; rfl
  · unfold eW; rw [e 0 (by decide), e 1 (by decide), e 3 (by decide), e 4 (by decide)]; rfl
  · unfold eW; rw [e 0 (by decide), e 1 (by decide), e 2 (by decide), e 4 (by decide)]; rfl
  · unfold eW; rw [e 0 (by decide), e 1 (by decide), e 2 (by decide), e 3 (by decide)]; rfl
/-! the class's methods as functions -/
def minI (x z : Int32) : Int32 := if z < x then z else x
def maxI (x z : Int32) : Int32 := if x < z then z else x
def heldB (q : Fld) (k : Nat) : Bool := decide (q 7 k < 3)
def fishB (q : Fld) (k : Nat) : Bool := decide (q 7 k < 3) && decide (q 6 k = 0)
def wayB (q : Fld) (k : Nat) (wide : Int32) : Bool := fishB q k && decide ((30 - wide) < q 1 k)
def factW (q : Fld) (k j : Nat) : Int32 := if j = 6 then (if q 6 k = 0 then 0 else 1) else q j k
def caughtI (q : Fld) (k : Nat) (x : Int32) : Int32 := minI (((x * q 1 k) * q 2 k) / 3000) (200 - q 5 k)
def catchW (q : Fld) (k : Nat) (x : Int32) : Fld := up2 q 5 k (q 5 k + caughtI q k x)
def loseI (w m : Int32) : Int32 := if w ≤ m then 0 else w - m
def loseW (q : Fld) (k : Nat) (m : Int32) : Fld := up2 q 2 k (loseI (q 2 k) m)
def fineI (q : Fld) (k : Nat) : Int32 := minI 3 (q 4 k)
def breakW (q : Fld) (k : Nat) (wide : Int32) : Fld := up2 (loseW (up2 q 1 k (30 - wide)) k 20) 4 k (q 4 k - fineI q k)
def payW (q : Fld) (k : Nat) : Fld := if q 4 k < q 3 k then (if q 7 k + 1 < 3 then up2 q 7 k (q 7 k + 1) else up2 (up2 q 7 k (q 7 k + 1)) 5 k 0) else up2 (up2 q 4 k (q 4 k - q 3 k)) 7 k 0
def paidI (q : Fld) (k : Nat) : Int32 := if q 4 k < q 3 k then 0 else q 3 k
def newW (q : Fld) (k : Nat) (p s r : Int32) : Fld := up2 (up2 (up2 (up2 (up2 (up2 (up2 (up2 q 0 k p) 1 k s) 2 k 100) 3 k r) 4 k 20) 5 k 0) 6 k 0) 7 k 0
/-- what one weir, one barge holds, put in another's place -/
def cpF (q : Fld) (k : Nat) (q2 : Fld) (k2 : Nat) : Fld := fun j => upd (q j) k (q2 j k2)
def newB (b : Fld) (k : Nat) (tk w : Int32) : Fld := up2 (up2 (up2 (up2 b 0 k tk) 1 k w) 2 k (-1)) 3 k 0
def goB (b : Fld) (k : Nat) (x : Int32) : Fld := up2 b 2 k (minI (b 2 k + 5) x)
theorem cpF_k (q : Fld) (k : Nat) (q2 : Fld) (k2 : Nat) (j i : Nat) (h : i ≠ k) : cpF q k q2 k2 j i = q j i := by simp [cpF, upd, h]
theorem cpF_s (q : Fld) (k : Nat) (q2 : Fld) (k2 j : Nat) : cpF q k q2 k2 j k = q2 j k2 := by simp [cpF, upd]
theorem cpF_id (q : Fld) (k : Nat) : cpF q k q k = q := by funext j; exact up2_0 _ _
theorem catchW_k (q : Fld) (k : Nat) (x : Int32) (j i : Nat) (h : i ≠ k) : catchW q k x j i = q j i := up2_k _ _ _ _ _ _ h
theorem loseW_k (q : Fld) (k : Nat) (m : Int32) (j i : Nat) (h : i ≠ k) : loseW q k m j i = q j i := up2_k _ _ _ _ _ _ h
theorem breakW_k (q : Fld) (k : Nat) (w : Int32) (j i : Nat) (h : i ≠ k) : breakW q k w j i = q j i := by unfold breakW; rw [up2_k _ _ _ _ _ _ h, loseW_k _ _ _ _ _ h, up2_k _ _ _ _ _ _ h]
theorem payW_k (q : Fld) (k j i : Nat) (h : i ≠ k) : payW q k j i = q j i := by
  unfold payW
  split
  · split
    · exact up2_k _ _ _ _ _ _ h
    · rw [up2_k _ _ _ _ _ _ h, up2_k _ _ _ _ _ _ h]
  · rw [up2_k _ _ _ _ _ _ h, up2_k _ _ _ _ _ _ h]
theorem newW_k (q : Fld) (k : Nat) (p s r : Int32) (j i : Nat) (h : i ≠ k) : newW q k p s r j i = q j i := by
  unfold newW
  rw [up2_k _ _ _ _ _ _ h, up2_k _ _ _ _ _ _ h, up2_k _ _ _ _ _ _ h, up2_k _ _ _ _ _ _ h, up2_k _ _ _ _ _ _ h, up2_k _ _ _ _ _ _ h, up2_k _ _ _ _ _ _ h, up2_k _ _ _ _ _ _ h]
theorem newB_k (b : Fld) (k : Nat) (tk w : Int32) (j i : Nat) (h : i ≠ k) : newB b k tk w j i = b j i := by
  unfold newB
  rw [up2_k _ _ _ _ _ _ h, up2_k _ _ _ _ _ _ h, up2_k _ _ _ _ _ _ h, up2_k _ _ _ _ _ _ h]
theorem goB_k (b : Fld) (k : Nat) (x : Int32) (j i : Nat) (h : i ≠ k) : goB b k x j i = b j i := up2_k _ _ _ _ _ _ h
/-- n rounds, from round 0 on -/
def itN {σ : Type} (f : Nat → σ → σ) : Nat → σ → σ
  | 0, x => x
  | n + 1, x => f n (itN f n x)
theorem itN_s {σ : Type} (f : Nat → σ → σ) (n : Nat) (x : σ) : itN f (n + 1) x = f n (itN f n x) := rfl
theorem down {P : Nat → Prop} {c : Nat} (h0 : P c) (hs : ∀ k, k < c → P (k + 1) → P k) : ∀ k, k ≤ c → P k := by
  have key : ∀ n k, k + n = c → P k := by
    intro n
    induction n with
    | zero => intro k hk; rw [show k = c by omega]; exact h0
    | succ n ih => intro k hk; exact hs k (by omega) (ih (k + 1) (by omega))
  intro k hk
  exact key (c - k) k (by omega)
def heldN (q : Fld) (c : Nat) : Int32 := itN (fun i a => if heldB q i = true then a + 1 else a) c 0
def wattleN (q : Fld) (c : Nat) : Int32 := itN (fun i a => if heldB q i = true then a + q 2 i else a) c 0
def eelsN (q : Fld) (c : Nat) : Int32 := itN (fun i a => a + q 5 i) c 0
def wayN (q : Fld) (c : Nat) (wide : Int32) : Int32 := itN (fun i a => if wayB q i wide = true then a + 1 else a) c 0
def richS (q : Fld) (i : Nat) (a : Int32 × Int32) : Int32 × Int32 := if heldB q i = true then (if a.1 = -1 then (nI i, q 4 i) else if a.2 < q 4 i then (nI i, q 4 i) else a) else a
def richE (q : Fld) (c : Nat) : Int32 × Int32 := itN (richS q) c (-1, 0)
def nextS (q : Fld) (bp bw : Int32) (i : Nat) (a : Int32 × Int32) : Int32 × Int32 := if bp < q 0 i then (if q 0 i < a.2 then (if wayB q i bw = true then (nI i, q 0 i) else a) else a) else a
def nextE (q : Fld) (c : Nat) (bp bw : Int32) : Int32 × Int32 := itN (nextS q bp bw) c (-1, 40)
theorem nextE_c (q : Fld) (c : Nat) (bp bw : Int32) : (nextE q c bp bw).1 = -1 ∨ ∃ i, i < c ∧ (nextE q c bp bw).1 = nI i ∧ (nextE q c bp bw).2 = q 0 i := by
  unfold nextE
  induction c with
  | zero => exact Or.inl rfl
  | succ c ih =>
    rw [itN_s]
    have ih' : (itN (nextS q bp bw) c (-1, 40)).1 = -1 ∨ ∃ i, i < c + 1 ∧ (itN (nextS q bp bw) c (-1, 40)).1 = nI i ∧ (itN (nextS q bp bw) c (-1, 40)).2 = q 0 i := by
      rcases ih with h | ⟨i, h1, h2⟩
      · exact Or.inl h
      · exact Or.inr ⟨i, by omega, h2⟩
    unfold nextS at ih' ⊢
    split
    · split
      · split
        · exact Or.inr ⟨c, by omega, rfl, rfl⟩
        · exact ih'
      · exact ih'
    · exact ih'
def moonD (d : Int32) : Int32 := if d ≤ 3 then 0 else if d < 25 then (if d ≤ 9 then 1 else if d < 19 then 2 else 1) else 0
def moonI (n : Nat) : Int32 := moonD (nI (n % 28))
def runI (t : Nat → Int32) (n : Nat) : Int32 := if moonI n = 0 then 3 * t (n % 7) else if moonI n = 1 then 2 * t (n % 7) else t (n % 7)
def catchS (o : Nat → Nat) (i : Nat) (a : Fld × Int32) : Fld × Int32 := if fishB a.1 (o i) = true then (catchW a.1 (o i) a.2, a.2 - caughtI a.1 (o i) a.2) else a
def catchE (o : Nat → Nat) (q : Fld) (c : Nat) (x : Int32) : Fld := (itN (catchS o) c (q, x)).1
def brkS (bp bw : Int32) (i : Nat) (a : Fld × Int32 × Int32) : Fld × Int32 × Int32 := if a.1 0 i = bp then (if wayB a.1 i bw = true then (breakW a.1 i bw, a.2.1 + fineI a.1 i, a.2.2 + 1) else a) else a
def brkE (q : Fld) (c : Nat) (bp bw fi br : Int32) : Fld × Int32 × Int32 := itN (brkS bp bw) c (q, fi, br)
def farI (nx : Int32 × Int32) : Int32 := if nx.1 = -1 then 39 else nx.2
def movS (c : Nat) (j : Nat) (a : Fld × Fld × Int32) : Fld × Fld × Int32 :=
  let pl := minI (a.2.1 2 j + 5) (farI (nextE a.1 c (a.2.1 2 j) (a.2.1 1 j)))
  let r := brkE a.1 c pl (a.2.1 1 j) a.2.2 (a.2.1 3 j)
  (r.1, up2 (up2 a.2.1 2 j pl) 3 j r.2.2, r.2.1)
def movE (q b : Fld) (c bc : Nat) (fi : Int32) : Fld × Fld × Int32 := itN (movS c) bc (q, b, fi)
def lvS (i : Nat) (a : Fld × Nat) : Fld × Nat := if a.1 2 i < 39 then (cpF a.1 a.2 a.1 i, a.2 + 1) else a
def lvE (b : Fld) (bc : Nat) : Fld × Nat := itN lvS bc (b, 0)
def rotI (n : Nat) : Int32 := if moonI n = 1 then 1 else 3
def rotE (q : Fld) (c n : Nat) : Fld := itN (fun i a => if heldB a i = true then loseW a i (rotI n) else a) c q
def rentS (i : Nat) (a : Fld × Int32) : Fld × Int32 := if heldB a.1 i = true then (payW a.1 i, a.2 + paidI a.1 i) else a
def rentE (q : Fld) (c : Nat) (re : Int32) : Fld × Int32 := itN rentS c (q, re)
/-- what nights change: the weirs, the barges, how many barges, the night, how many arrived, fines, rents -/
abbrev Nst : Type := Fld × Fld × Nat × Nat × Int32 × Int32 × Int32
def nightE (t : Nat → Int32) (o : Nat → Nat) (c : Nat) (a : Nst) : Nst :=
  let q1 := catchE o a.1 c (runI t a.2.2.2.1)
  let mv := movE q1 a.2.1 c a.2.2.1 a.2.2.2.2.2.1
  let lv := lvE mv.2.1 a.2.2.1
  let q3 := rotE mv.1 c a.2.2.2.1
  let rn := if a.2.2.2.1 % 14 = 13 then rentE q3 c a.2.2.2.2.2.2 else (q3, a.2.2.2.2.2.2)
  (rn.1, lv.1, lv.2, a.2.2.2.1 + 1, a.2.2.2.2.1 + (nI a.2.2.1 - nI lv.2), mv.2.2, rn.2)
def nightsE (t : Nat → Int32) (o : Nat → Nat) (c k : Nat) (a : Nst) : Nst := itN (fun _ => nightE t o c) k a
/-- the first m from f, the rest from g -/
def cpN {α : Type} (m : Nat) (f g : Nat → α) : Nat → α := fun i => if i < m then f i else g i
theorem cpN_0 {α : Type} (f g : Nat → α) : cpN 0 f g = g := by funext i; simp [cpN]
theorem cpN_u {α : Type} (m : Nat) (f g : Nat → α) : (fun i => if i = m then f m else cpN m f g i) = cpN (m + 1) f g := by
  funext i
  unfold cpN
  by_cases h : i = m
  · subst h; simp
  · by_cases h2 : i < m
    · simp [h, h2, show i < m + 1 by omega]
    · simp [h, h2, show ¬ i < m + 1 by omega]
theorem cpN_upd (m : Nat) (f g : Nat → Int32) : upd (cpN m f g) m (f m) = cpN (m + 1) f g := cpN_u m f g
theorem cpN_lt {α : Type} {m i : Nat} (f g : Nat → α) (h : i < m) : cpN m f g i = f i := by simp [cpN, h]
/-- the weirs (barges) of two states: the first m of the one, the rest of the other -/
def cp2 (m : Nat) (q g : Fld) : Fld := fun j => cpN m (q j) (g j)
theorem cp2_0 (q g : Fld) : cp2 0 q g = g := by funext j; exact cpN_0 _ _
theorem cp2_s (m : Nat) (q g : Fld) : cpF (cp2 m q g) m q m = cp2 (m + 1) q g := by funext j; exact cpN_upd _ _ _
end
section
theorem zb_fit {v : Int32} (h : v = 0 ∨ v = 1) : fits .boolean (.int v) = true := by rcases h with rfl | rfl <;> rfl
end
section
set_option maxRecDepth 20000 in
theorem ggX2_isInWay_X2_isFishing : GoodIn wsX2_isInWay wsX2_isFishing := goodIn_r _ [6, 7, 8, 9, 10, 11, 12, 13, 14, 15, 16] (by decide +kernel) (by decide +kernel)
set_option maxRecDepth 20000 in
theorem gX2_isInWay_X2_isFishing : GoodIn wsX2_isInWay (wsV RX2 37 RX2 yX2_isFishing wsX2_isFishing) := goodIn_app (goodIn_of _ (by decide +kernel)) ggX2_isInWay_X2_isFishing
set_option maxRecDepth 20000 in
theorem ggX2_breakFor_X2_loseWattle : GoodIn wsX2_breakFor wsX2_loseWattle := goodIn_r _ [11, 12, 13, 14, 15, 16, 17, 18, 19, 20] (by decide +kernel) (by decide +kernel)
set_option maxRecDepth 20000 in
theorem gX2_breakFor_X2_loseWattle : GoodIn wsX2_breakFor (wsV RX2 47 RX2 yX2_loseWattle wsX2_loseWattle) := goodIn_app (goodIn_of _ (by decide +kernel)) ggX2_breakFor_X2_loseWattle
end
section
theorem dX2_init_0 : decode cX2_init 0 = .ok (.aload_n 0, 1) := by decide +kernel
theorem dX2_init_1 : decode cX2_init 1 = .ok (.invokespecial 3, 3) := by decide +kernel
theorem dX2_init_4 : decode cX2_init 4 = .ok (.return_, 1) := by decide +kernel
theorem dX2_makeNew_0 : decode cX2_makeNew 0 = .ok (.aload_n 0, 1) := by decide +kernel
theorem dX2_makeNew_1 : decode cX2_makeNew 1 = .ok (.iload_n 1, 1) := by decide +kernel
theorem dX2_makeNew_2 : decode cX2_makeNew 2 = .ok (.putfield 9, 3) := by decide +kernel
theorem dX2_makeNew_5 : decode cX2_makeNew 5 = .ok (.aload_n 0, 1) := by decide +kernel
theorem dX2_makeNew_6 : decode cX2_makeNew 6 = .ok (.iload_n 2, 1) := by decide +kernel
theorem dX2_makeNew_7 : decode cX2_makeNew 7 = .ok (.putfield 15, 3) := by decide +kernel
theorem dX2_makeNew_10 : decode cX2_makeNew 10 = .ok (.aload_n 0, 1) := by decide +kernel
theorem dX2_makeNew_11 : decode cX2_makeNew 11 = .ok (.bipush 100, 2) := by decide +kernel
theorem dX2_makeNew_13 : decode cX2_makeNew 13 = .ok (.putfield 18, 3) := by decide +kernel
theorem dX2_makeNew_16 : decode cX2_makeNew 16 = .ok (.aload_n 0, 1) := by decide +kernel
theorem dX2_makeNew_17 : decode cX2_makeNew 17 = .ok (.iload_n 3, 1) := by decide +kernel
theorem dX2_makeNew_18 : decode cX2_makeNew 18 = .ok (.putfield 21, 3) := by decide +kernel
theorem dX2_makeNew_21 : decode cX2_makeNew 21 = .ok (.aload_n 0, 1) := by decide +kernel
theorem dX2_makeNew_22 : decode cX2_makeNew 22 = .ok (.bipush 20, 2) := by decide +kernel
theorem dX2_makeNew_24 : decode cX2_makeNew 24 = .ok (.putfield 24, 3) := by decide +kernel
theorem dX2_makeNew_27 : decode cX2_makeNew 27 = .ok (.aload_n 0, 1) := by decide +kernel
theorem dX2_makeNew_28 : decode cX2_makeNew 28 = .ok (.iconst 0, 1) := by decide +kernel
theorem dX2_makeNew_29 : decode cX2_makeNew 29 = .ok (.putfield 27, 3) := by decide +kernel
theorem dX2_makeNew_32 : decode cX2_makeNew 32 = .ok (.aload_n 0, 1) := by decide +kernel
theorem dX2_makeNew_33 : decode cX2_makeNew 33 = .ok (.iconst 0, 1) := by decide +kernel
theorem dX2_makeNew_34 : decode cX2_makeNew 34 = .ok (.putfield 30, 3) := by decide +kernel
theorem dX2_makeNew_37 : decode cX2_makeNew 37 = .ok (.aload_n 0, 1) := by decide +kernel
theorem dX2_makeNew_38 : decode cX2_makeNew 38 = .ok (.iconst 0, 1) := by decide +kernel
theorem dX2_makeNew_39 : decode cX2_makeNew 39 = .ok (.putfield 34, 3) := by decide +kernel
theorem dX2_makeNew_42 : decode cX2_makeNew 42 = .ok (.return_, 1) := by decide +kernel
theorem dX2_copyFrom_0 : decode cX2_copyFrom 0 = .ok (.aload_n 0, 1) := by decide +kernel
theorem dX2_copyFrom_1 : decode cX2_copyFrom 1 = .ok (.aload_n 1, 1) := by decide +kernel
theorem dX2_copyFrom_2 : decode cX2_copyFrom 2 = .ok (.getfield 9, 3) := by decide +kernel
theorem dX2_copyFrom_5 : decode cX2_copyFrom 5 = .ok (.putfield 9, 3) := by decide +kernel
theorem dX2_copyFrom_8 : decode cX2_copyFrom 8 = .ok (.aload_n 0, 1) := by decide +kernel
theorem dX2_copyFrom_9 : decode cX2_copyFrom 9 = .ok (.aload_n 1, 1) := by decide +kernel
theorem dX2_copyFrom_10 : decode cX2_copyFrom 10 = .ok (.getfield 15, 3) := by decide +kernel
theorem dX2_copyFrom_13 : decode cX2_copyFrom 13 = .ok (.putfield 15, 3) := by decide +kernel
theorem dX2_copyFrom_16 : decode cX2_copyFrom 16 = .ok (.aload_n 0, 1) := by decide +kernel
theorem dX2_copyFrom_17 : decode cX2_copyFrom 17 = .ok (.aload_n 1, 1) := by decide +kernel
theorem dX2_copyFrom_18 : decode cX2_copyFrom 18 = .ok (.getfield 18, 3) := by decide +kernel
theorem dX2_copyFrom_21 : decode cX2_copyFrom 21 = .ok (.putfield 18, 3) := by decide +kernel
theorem dX2_copyFrom_24 : decode cX2_copyFrom 24 = .ok (.aload_n 0, 1) := by decide +kernel
theorem dX2_copyFrom_25 : decode cX2_copyFrom 25 = .ok (.aload_n 1, 1) := by decide +kernel
theorem dX2_copyFrom_26 : decode cX2_copyFrom 26 = .ok (.getfield 21, 3) := by decide +kernel
theorem dX2_copyFrom_29 : decode cX2_copyFrom 29 = .ok (.putfield 21, 3) := by decide +kernel
theorem dX2_copyFrom_32 : decode cX2_copyFrom 32 = .ok (.aload_n 0, 1) := by decide +kernel
theorem dX2_copyFrom_33 : decode cX2_copyFrom 33 = .ok (.aload_n 1, 1) := by decide +kernel
theorem dX2_copyFrom_34 : decode cX2_copyFrom 34 = .ok (.getfield 24, 3) := by decide +kernel
theorem dX2_copyFrom_37 : decode cX2_copyFrom 37 = .ok (.putfield 24, 3) := by decide +kernel
theorem dX2_copyFrom_40 : decode cX2_copyFrom 40 = .ok (.aload_n 0, 1) := by decide +kernel
theorem dX2_copyFrom_41 : decode cX2_copyFrom 41 = .ok (.aload_n 1, 1) := by decide +kernel
theorem dX2_copyFrom_42 : decode cX2_copyFrom 42 = .ok (.getfield 27, 3) := by decide +kernel
theorem dX2_copyFrom_45 : decode cX2_copyFrom 45 = .ok (.putfield 27, 3) := by decide +kernel
theorem dX2_copyFrom_48 : decode cX2_copyFrom 48 = .ok (.aload_n 0, 1) := by decide +kernel
theorem dX2_copyFrom_49 : decode cX2_copyFrom 49 = .ok (.aload_n 1, 1) := by decide +kernel
theorem dX2_copyFrom_50 : decode cX2_copyFrom 50 = .ok (.getfield 30, 3) := by decide +kernel
theorem dX2_copyFrom_53 : decode cX2_copyFrom 53 = .ok (.putfield 30, 3) := by decide +kernel
theorem dX2_copyFrom_56 : decode cX2_copyFrom 56 = .ok (.aload_n 0, 1) := by decide +kernel
theorem dX2_copyFrom_57 : decode cX2_copyFrom 57 = .ok (.aload_n 1, 1) := by decide +kernel
theorem dX2_copyFrom_58 : decode cX2_copyFrom 58 = .ok (.getfield 34, 3) := by decide +kernel
theorem dX2_copyFrom_61 : decode cX2_copyFrom 61 = .ok (.putfield 34, 3) := by decide +kernel
theorem dX2_copyFrom_64 : decode cX2_copyFrom 64 = .ok (.return_, 1) := by decide +kernel
theorem dX2_isHeld_0 : decode cX2_isHeld 0 = .ok (.aload_n 0, 1) := by decide +kernel
theorem dX2_isHeld_1 : decode cX2_isHeld 1 = .ok (.getfield 34, 3) := by decide +kernel
theorem dX2_isHeld_4 : decode cX2_isHeld 4 = .ok (.iconst 3, 1) := by decide +kernel
theorem dX2_isHeld_5 : decode cX2_isHeld 5 = .ok (.if_icmp .ge 7, 3) := by decide +kernel
theorem dX2_isHeld_8 : decode cX2_isHeld 8 = .ok (.iconst 1, 1) := by decide +kernel
theorem dX2_isHeld_9 : decode cX2_isHeld 9 = .ok (.goto 4, 3) := by decide +kernel
theorem dX2_isHeld_12 : decode cX2_isHeld 12 = .ok (.iconst 0, 1) := by decide +kernel
theorem dX2_isHeld_13 : decode cX2_isHeld 13 = .ok (.ireturn, 1) := by decide +kernel
theorem dX2_isFishing_0 : decode cX2_isFishing 0 = .ok (.aload_n 0, 1) := by decide +kernel
theorem dX2_isFishing_1 : decode cX2_isFishing 1 = .ok (.getfield 34, 3) := by decide +kernel
theorem dX2_isFishing_4 : decode cX2_isFishing 4 = .ok (.iconst 3, 1) := by decide +kernel
theorem dX2_isFishing_5 : decode cX2_isFishing 5 = .ok (.if_icmp .ge 14, 3) := by decide +kernel
theorem dX2_isFishing_8 : decode cX2_isFishing 8 = .ok (.aload_n 0, 1) := by decide +kernel
theorem dX2_isFishing_9 : decode cX2_isFishing 9 = .ok (.getfield 30, 3) := by decide +kernel
theorem dX2_isFishing_12 : decode cX2_isFishing 12 = .ok (.ifCond .ne 7, 3) := by decide +kernel
theorem dX2_isFishing_15 : decode cX2_isFishing 15 = .ok (.iconst 1, 1) := by decide +kernel
theorem dX2_isFishing_16 : decode cX2_isFishing 16 = .ok (.goto 4, 3) := by decide +kernel
theorem dX2_isFishing_19 : decode cX2_isFishing 19 = .ok (.iconst 0, 1) := by decide +kernel
theorem dX2_isFishing_20 : decode cX2_isFishing 20 = .ok (.ireturn, 1) := by decide +kernel
theorem dX2_isInWay_0 : decode cX2_isInWay 0 = .ok (.aload_n 0, 1) := by decide +kernel
theorem dX2_isInWay_1 : decode cX2_isInWay 1 = .ok (.invokevirtual 37, 3) := by decide +kernel
theorem dX2_isInWay_4 : decode cX2_isInWay 4 = .ok (.ifCond .eq 18, 3) := by decide +kernel
theorem dX2_isInWay_7 : decode cX2_isInWay 7 = .ok (.aload_n 0, 1) := by decide +kernel
theorem dX2_isInWay_8 : decode cX2_isInWay 8 = .ok (.getfield 15, 3) := by decide +kernel
theorem dX2_isInWay_11 : decode cX2_isInWay 11 = .ok (.bipush 30, 2) := by decide +kernel
theorem dX2_isInWay_13 : decode cX2_isInWay 13 = .ok (.iload_n 1, 1) := by decide +kernel
theorem dX2_isInWay_14 : decode cX2_isInWay 14 = .ok (.isub, 1) := by decide +kernel
theorem dX2_isInWay_15 : decode cX2_isInWay 15 = .ok (.if_icmp .le 7, 3) := by decide +kernel
theorem dX2_isInWay_18 : decode cX2_isInWay 18 = .ok (.iconst 1, 1) := by decide +kernel
theorem dX2_isInWay_19 : decode cX2_isInWay 19 = .ok (.goto 4, 3) := by decide +kernel
theorem dX2_isInWay_22 : decode cX2_isInWay 22 = .ok (.iconst 0, 1) := by decide +kernel
theorem dX2_isInWay_23 : decode cX2_isInWay 23 = .ok (.ireturn, 1) := by decide +kernel
theorem dX2_fact_0 : decode cX2_fact 0 = .ok (.iload_n 1, 1) := by decide +kernel
theorem dX2_fact_1 : decode cX2_fact 1 = .ok (.tableswitch 86 0 6 #[43, 48, 53, 58, 63, 68, 73], 43) := by decide +kernel
theorem dX2_fact_44 : decode cX2_fact 44 = .ok (.aload_n 0, 1) := by decide +kernel
theorem dX2_fact_45 : decode cX2_fact 45 = .ok (.getfield 9, 3) := by decide +kernel
theorem dX2_fact_48 : decode cX2_fact 48 = .ok (.ireturn, 1) := by decide +kernel
theorem dX2_fact_49 : decode cX2_fact 49 = .ok (.aload_n 0, 1) := by decide +kernel
theorem dX2_fact_50 : decode cX2_fact 50 = .ok (.getfield 15, 3) := by decide +kernel
theorem dX2_fact_53 : decode cX2_fact 53 = .ok (.ireturn, 1) := by decide +kernel
theorem dX2_fact_54 : decode cX2_fact 54 = .ok (.aload_n 0, 1) := by decide +kernel
theorem dX2_fact_55 : decode cX2_fact 55 = .ok (.getfield 18, 3) := by decide +kernel
theorem dX2_fact_58 : decode cX2_fact 58 = .ok (.ireturn, 1) := by decide +kernel
theorem dX2_fact_59 : decode cX2_fact 59 = .ok (.aload_n 0, 1) := by decide +kernel
theorem dX2_fact_60 : decode cX2_fact 60 = .ok (.getfield 21, 3) := by decide +kernel
theorem dX2_fact_63 : decode cX2_fact 63 = .ok (.ireturn, 1) := by decide +kernel
theorem dX2_fact_64 : decode cX2_fact 64 = .ok (.aload_n 0, 1) := by decide +kernel
theorem dX2_fact_65 : decode cX2_fact 65 = .ok (.getfield 24, 3) := by decide +kernel
theorem dX2_fact_68 : decode cX2_fact 68 = .ok (.ireturn, 1) := by decide +kernel
theorem dX2_fact_69 : decode cX2_fact 69 = .ok (.aload_n 0, 1) := by decide +kernel
theorem dX2_fact_70 : decode cX2_fact 70 = .ok (.getfield 27, 3) := by decide +kernel
theorem dX2_fact_73 : decode cX2_fact 73 = .ok (.ireturn, 1) := by decide +kernel
theorem dX2_fact_74 : decode cX2_fact 74 = .ok (.aload_n 0, 1) := by decide +kernel
theorem dX2_fact_75 : decode cX2_fact 75 = .ok (.getfield 30, 3) := by decide +kernel
theorem dX2_fact_78 : decode cX2_fact 78 = .ok (.ifCond .eq 7, 3) := by decide +kernel
theorem dX2_fact_81 : decode cX2_fact 81 = .ok (.iconst 1, 1) := by decide +kernel
theorem dX2_fact_82 : decode cX2_fact 82 = .ok (.goto 4, 3) := by decide +kernel
theorem dX2_fact_85 : decode cX2_fact 85 = .ok (.iconst 0, 1) := by decide +kernel
theorem dX2_fact_86 : decode cX2_fact 86 = .ok (.ireturn, 1) := by decide +kernel
theorem dX2_fact_87 : decode cX2_fact 87 = .ok (.aload_n 0, 1) := by decide +kernel
theorem dX2_fact_88 : decode cX2_fact 88 = .ok (.getfield 34, 3) := by decide +kernel
theorem dX2_fact_91 : decode cX2_fact 91 = .ok (.ireturn, 1) := by decide +kernel
theorem dX2_catchOf_0 : decode cX2_catchOf 0 = .ok (.iload_n 1, 1) := by decide +kernel
theorem dX2_catchOf_1 : decode cX2_catchOf 1 = .ok (.aload_n 0, 1) := by decide +kernel
theorem dX2_catchOf_2 : decode cX2_catchOf 2 = .ok (.getfield 15, 3) := by decide +kernel
theorem dX2_catchOf_5 : decode cX2_catchOf 5 = .ok (.imul, 1) := by decide +kernel
theorem dX2_catchOf_6 : decode cX2_catchOf 6 = .ok (.aload_n 0, 1) := by decide +kernel
theorem dX2_catchOf_7 : decode cX2_catchOf 7 = .ok (.getfield 18, 3) := by decide +kernel
theorem dX2_catchOf_10 : decode cX2_catchOf 10 = .ok (.imul, 1) := by decide +kernel
theorem dX2_catchOf_11 : decode cX2_catchOf 11 = .ok (.sipush 3000, 3) := by decide +kernel
theorem dX2_catchOf_14 : decode cX2_catchOf 14 = .ok (.idiv, 1) := by decide +kernel
theorem dX2_catchOf_15 : decode cX2_catchOf 15 = .ok (.sipush 200, 3) := by decide +kernel
theorem dX2_catchOf_18 : decode cX2_catchOf 18 = .ok (.aload_n 0, 1) := by decide +kernel
theorem dX2_catchOf_19 : decode cX2_catchOf 19 = .ok (.getfield 27, 3) := by decide +kernel
theorem dX2_catchOf_22 : decode cX2_catchOf 22 = .ok (.isub, 1) := by decide +kernel
theorem dX2_catchOf_23 : decode cX2_catchOf 23 = .ok (.invokestatic 41, 3) := by decide +kernel
theorem dX2_catchOf_26 : decode cX2_catchOf 26 = .ok (.istore_n 2, 1) := by decide +kernel
theorem dX2_catchOf_27 : decode cX2_catchOf 27 = .ok (.aload_n 0, 1) := by decide +kernel
theorem dX2_catchOf_28 : decode cX2_catchOf 28 = .ok (.dup, 1) := by decide +kernel
theorem dX2_catchOf_29 : decode cX2_catchOf 29 = .ok (.getfield 27, 3) := by decide +kernel
theorem dX2_catchOf_32 : decode cX2_catchOf 32 = .ok (.iload_n 2, 1) := by decide +kernel
theorem dX2_catchOf_33 : decode cX2_catchOf 33 = .ok (.iadd, 1) := by decide +kernel
theorem dX2_catchOf_34 : decode cX2_catchOf 34 = .ok (.putfield 27, 3) := by decide +kernel
theorem dX2_catchOf_37 : decode cX2_catchOf 37 = .ok (.iload_n 2, 1) := by decide +kernel
theorem dX2_catchOf_38 : decode cX2_catchOf 38 = .ok (.ireturn, 1) := by decide +kernel
theorem dX2_breakFor_0 : decode cX2_breakFor 0 = .ok (.aload_n 0, 1) := by decide +kernel
theorem dX2_breakFor_1 : decode cX2_breakFor 1 = .ok (.bipush 30, 2) := by decide +kernel
theorem dX2_breakFor_3 : decode cX2_breakFor 3 = .ok (.iload_n 1, 1) := by decide +kernel
theorem dX2_breakFor_4 : decode cX2_breakFor 4 = .ok (.isub, 1) := by decide +kernel
theorem dX2_breakFor_5 : decode cX2_breakFor 5 = .ok (.putfield 15, 3) := by decide +kernel
theorem dX2_breakFor_8 : decode cX2_breakFor 8 = .ok (.aload_n 0, 1) := by decide +kernel
theorem dX2_breakFor_9 : decode cX2_breakFor 9 = .ok (.bipush 20, 2) := by decide +kernel
theorem dX2_breakFor_11 : decode cX2_breakFor 11 = .ok (.invokevirtual 47, 3) := by decide +kernel
theorem dX2_breakFor_14 : decode cX2_breakFor 14 = .ok (.iconst 3, 1) := by decide +kernel
theorem dX2_breakFor_15 : decode cX2_breakFor 15 = .ok (.aload_n 0, 1) := by decide +kernel
theorem dX2_breakFor_16 : decode cX2_breakFor 16 = .ok (.getfield 24, 3) := by decide +kernel
theorem dX2_breakFor_19 : decode cX2_breakFor 19 = .ok (.invokestatic 41, 3) := by decide +kernel
theorem dX2_breakFor_22 : decode cX2_breakFor 22 = .ok (.istore_n 2, 1) := by decide +kernel
theorem dX2_breakFor_23 : decode cX2_breakFor 23 = .ok (.aload_n 0, 1) := by decide +kernel
theorem dX2_breakFor_24 : decode cX2_breakFor 24 = .ok (.dup, 1) := by decide +kernel
theorem dX2_breakFor_25 : decode cX2_breakFor 25 = .ok (.getfield 24, 3) := by decide +kernel
theorem dX2_breakFor_28 : decode cX2_breakFor 28 = .ok (.iload_n 2, 1) := by decide +kernel
theorem dX2_breakFor_29 : decode cX2_breakFor 29 = .ok (.isub, 1) := by decide +kernel
theorem dX2_breakFor_30 : decode cX2_breakFor 30 = .ok (.putfield 24, 3) := by decide +kernel
theorem dX2_breakFor_33 : decode cX2_breakFor 33 = .ok (.iload_n 2, 1) := by decide +kernel
theorem dX2_breakFor_34 : decode cX2_breakFor 34 = .ok (.ireturn, 1) := by decide +kernel
theorem dX2_loseWattle_0 : decode cX2_loseWattle 0 = .ok (.aload_n 0, 1) := by decide +kernel
theorem dX2_loseWattle_1 : decode cX2_loseWattle 1 = .ok (.aload_n 0, 1) := by decide +kernel
theorem dX2_loseWattle_2 : decode cX2_loseWattle 2 = .ok (.getfield 18, 3) := by decide +kernel
theorem dX2_loseWattle_5 : decode cX2_loseWattle 5 = .ok (.iload_n 1, 1) := by decide +kernel
theorem dX2_loseWattle_6 : decode cX2_loseWattle 6 = .ok (.if_icmp .le 12, 3) := by decide +kernel
theorem dX2_loseWattle_9 : decode cX2_loseWattle 9 = .ok (.aload_n 0, 1) := by decide +kernel
theorem dX2_loseWattle_10 : decode cX2_loseWattle 10 = .ok (.getfield 18, 3) := by decide +kernel
theorem dX2_loseWattle_13 : decode cX2_loseWattle 13 = .ok (.iload_n 1, 1) := by decide +kernel
theorem dX2_loseWattle_14 : decode cX2_loseWattle 14 = .ok (.isub, 1) := by decide +kernel
theorem dX2_loseWattle_15 : decode cX2_loseWattle 15 = .ok (.goto 4, 3) := by decide +kernel
theorem dX2_loseWattle_18 : decode cX2_loseWattle 18 = .ok (.iconst 0, 1) := by decide +kernel
theorem dX2_loseWattle_19 : decode cX2_loseWattle 19 = .ok (.putfield 18, 3) := by decide +kernel
theorem dX2_loseWattle_22 : decode cX2_loseWattle 22 = .ok (.return_, 1) := by decide +kernel
theorem dX2_payRent_0 : decode cX2_payRent 0 = .ok (.aload_n 0, 1) := by decide +kernel
theorem dX2_payRent_1 : decode cX2_payRent 1 = .ok (.getfield 24, 3) := by decide +kernel
theorem dX2_payRent_4 : decode cX2_payRent 4 = .ok (.aload_n 0, 1) := by decide +kernel
theorem dX2_payRent_5 : decode cX2_payRent 5 = .ok (.getfield 21, 3) := by decide +kernel
theorem dX2_payRent_8 : decode cX2_payRent 8 = .ok (.if_icmp .lt 26, 3) := by decide +kernel
theorem dX2_payRent_11 : decode cX2_payRent 11 = .ok (.aload_n 0, 1) := by decide +kernel
theorem dX2_payRent_12 : decode cX2_payRent 12 = .ok (.dup, 1) := by decide +kernel
theorem dX2_payRent_13 : decode cX2_payRent 13 = .ok (.getfield 24, 3) := by decide +kernel
theorem dX2_payRent_16 : decode cX2_payRent 16 = .ok (.aload_n 0, 1) := by decide +kernel
theorem dX2_payRent_17 : decode cX2_payRent 17 = .ok (.getfield 21, 3) := by decide +kernel
theorem dX2_payRent_20 : decode cX2_payRent 20 = .ok (.isub, 1) := by decide +kernel
theorem dX2_payRent_21 : decode cX2_payRent 21 = .ok (.putfield 24, 3) := by decide +kernel
theorem dX2_payRent_24 : decode cX2_payRent 24 = .ok (.aload_n 0, 1) := by decide +kernel
theorem dX2_payRent_25 : decode cX2_payRent 25 = .ok (.iconst 0, 1) := by decide +kernel
theorem dX2_payRent_26 : decode cX2_payRent 26 = .ok (.putfield 34, 3) := by decide +kernel
theorem dX2_payRent_29 : decode cX2_payRent 29 = .ok (.aload_n 0, 1) := by decide +kernel
theorem dX2_payRent_30 : decode cX2_payRent 30 = .ok (.getfield 21, 3) := by decide +kernel
theorem dX2_payRent_33 : decode cX2_payRent 33 = .ok (.ireturn, 1) := by decide +kernel
theorem dX2_payRent_34 : decode cX2_payRent 34 = .ok (.aload_n 0, 1) := by decide +kernel
theorem dX2_payRent_35 : decode cX2_payRent 35 = .ok (.dup, 1) := by decide +kernel
theorem dX2_payRent_36 : decode cX2_payRent 36 = .ok (.getfield 34, 3) := by decide +kernel
theorem dX2_payRent_39 : decode cX2_payRent 39 = .ok (.iconst 1, 1) := by decide +kernel
theorem dX2_payRent_40 : decode cX2_payRent 40 = .ok (.iadd, 1) := by decide +kernel
theorem dX2_payRent_41 : decode cX2_payRent 41 = .ok (.putfield 34, 3) := by decide +kernel
theorem dX2_payRent_44 : decode cX2_payRent 44 = .ok (.aload_n 0, 1) := by decide +kernel
theorem dX2_payRent_45 : decode cX2_payRent 45 = .ok (.getfield 34, 3) := by decide +kernel
theorem dX2_payRent_48 : decode cX2_payRent 48 = .ok (.iconst 3, 1) := by decide +kernel
theorem dX2_payRent_49 : decode cX2_payRent 49 = .ok (.if_icmp .lt 8, 3) := by decide +kernel
theorem dX2_payRent_52 : decode cX2_payRent 52 = .ok (.aload_n 0, 1) := by decide +kernel
theorem dX2_payRent_53 : decode cX2_payRent 53 = .ok (.iconst 0, 1) := by decide +kernel
theorem dX2_payRent_54 : decode cX2_payRent 54 = .ok (.putfield 27, 3) := by decide +kernel
theorem dX2_payRent_57 : decode cX2_payRent 57 = .ok (.iconst 0, 1) := by decide +kernel
theorem dX2_payRent_58 : decode cX2_payRent 58 = .ok (.ireturn, 1) := by decide +kernel
end
section
set_option maxHeartbeats 4000000 in
set_option maxRecDepth 100000 in
theorem c_X2_isHeld (l : Launch) (D : va_G) (y : Nat → ClassId) (h : Nat) (q : Fld) (k : Nat)  : zR l yX2_isHeld wsX2_isHeld { frames := 0, cells := 0, slots := 0, locals := 0 } D y [.ref h] ([(h, .inr (2, qF q k))]) (some (.int (zb (heldB q k)))) := by
  refine zR.of (cc := cX2_isHeld) (maxL := 1) (ret := (some .boolean)) (own := RX2) (by decide) rfl (Nat.le_of_ble_eq_true rfl) rfl ?_
  intro p e s m args below meth cd ls hx hb hr hml hown hts hlocks hP hK hl
  have hl : lv_has ls 1 [(0, .ref h)] := hl
  have hf34 : (Cond.fieldLink RX2 34 "StakeWeirs$Weir" "owed" "I").before args s = true := hts _ (by decide +kernel)
  have hinX2 : ∀ w ∈ wsX20, w ∈ wsX2_isHeld := by decide +kernel
  refine lv_aload_n hx hb dX2_isHeld_0 rfl (lv_at hl 0 rfl) ?_
  refine va_get (D := D) (ci := 2) (v := .int ((q 7 k))) (C := RX2) (T := TX2) (N := 8) hx hb hts hinX2 hown hK hP (0) rfl rfl 7 (by decide) hf34 (fun _ h9 => h9) rfl dX2_isHeld_1 ?_
  refine lv_iconst (v := 3) hx hb dX2_isHeld_4 (by decide) ?_
  refine lv_icmp_ge (tgt := 12) hx hb dX2_isHeld_5 (by decide) (fun c1 => ?_) (fun c1 => ?_)
  · have d1 := Int32.not_lt.mpr c1
    refine lv_iconst (v := 0) hx hb dX2_isHeld_12 (by decide) ?_
    exact zR_z hx hb hr hlocks dX2_isHeld_13 (Or.inl rfl) (by simp [heldB, zb, c1, d1])
  · have d1 := Int32.not_le.mp c1
    refine lv_iconst (v := 1) hx hb dX2_isHeld_8 (by decide) ?_
    refine lv_goto (tgt := 13) hx hb dX2_isHeld_9 (by decide) ?_
    exact zR_z hx hb hr hlocks dX2_isHeld_13 (Or.inr rfl) (by simp [heldB, zb, c1, d1])
set_option maxHeartbeats 4000000 in
set_option maxRecDepth 100000 in
theorem c_X2_isFishing (l : Launch) (D : va_G) (y : Nat → ClassId) (h : Nat) (q : Fld) (k : Nat)  : zR l yX2_isFishing wsX2_isFishing { frames := 0, cells := 0, slots := 0, locals := 0 } D y [.ref h] ([(h, .inr (2, qF q k))]) (some (.int (zb (fishB q k)))) := by
  refine zR.of (cc := cX2_isFishing) (maxL := 1) (ret := (some .boolean)) (own := RX2) (by decide) rfl (Nat.le_of_ble_eq_true rfl) rfl ?_
  intro p e s m args below meth cd ls hx hb hr hml hown hts hlocks hP hK hl
  have hl : lv_has ls 1 [(0, .ref h)] := hl
  have hf34 : (Cond.fieldLink RX2 34 "StakeWeirs$Weir" "owed" "I").before args s = true := hts _ (by decide +kernel)
  have hinX2 : ∀ w ∈ wsX20, w ∈ wsX2_isFishing := by decide +kernel
  have hf30 : (Cond.fieldLink RX2 30 "StakeWeirs$Weir" "open" "Z").before args s = true := hts _ (by decide +kernel)
  refine lv_aload_n hx hb dX2_isFishing_0 rfl (lv_at hl 0 rfl) ?_
  refine va_get (D := D) (ci := 2) (v := .int ((q 7 k))) (C := RX2) (T := TX2) (N := 8) hx hb hts hinX2 hown hK hP (0) rfl rfl 7 (by decide) hf34 (fun _ h9 => h9) rfl dX2_isFishing_1 ?_
  refine lv_iconst (v := 3) hx hb dX2_isFishing_4 (by decide) ?_
  refine lv_icmp_ge (tgt := 19) hx hb dX2_isFishing_5 (by decide) (fun c1 => ?_) (fun c1 => ?_)
  · have d1 := Int32.not_lt.mpr c1
    refine lv_iconst (v := 0) hx hb dX2_isFishing_19 (by decide) ?_
    exact zR_z hx hb hr hlocks dX2_isFishing_20 (Or.inl rfl) (by simp [fishB, zb, c1, d1])
  · have d1 := Int32.not_le.mp c1
    refine lv_aload_n hx hb dX2_isFishing_8 rfl (lv_at hl 0 rfl) ?_
    refine va_get (D := D) (ci := 2) (v := .int ((q 6 k))) (C := RX2) (T := TX2) (N := 8) hx hb hts hinX2 hown hK hP (0) rfl rfl 6 (by decide) hf30 (fun _ h9 => h9) rfl dX2_isFishing_9 ?_
    refine lv_if_ne (tgt := 19) hx hb dX2_isFishing_12 (by decide) (fun c2 => ?_) (fun c2 => ?_)
    · have d2 := c2
      refine lv_iconst (v := 0) hx hb dX2_isFishing_19 (by decide) ?_
      exact zR_z hx hb hr hlocks dX2_isFishing_20 (Or.inl rfl) (by simp [fishB, zb, c1, d1, c2, d2])
    · have d2 := c2
      refine lv_iconst (v := 1) hx hb dX2_isFishing_15 (by decide) ?_
      refine lv_goto (tgt := 20) hx hb dX2_isFishing_16 (by decide) ?_
      exact zR_z hx hb hr hlocks dX2_isFishing_20 (Or.inr rfl) (by simp [fishB, zb, c1, d1, c2, d2])
set_option maxHeartbeats 4000000 in
set_option maxRecDepth 100000 in
theorem c_X2_isInWay (l : Launch) (D : va_G) (y : Nat → ClassId) (h : Nat) (q : Fld) (k : Nat) (wide : Int32)  : zR l yX2_isInWay wsX2_isInWay { frames := 1, cells := 0, slots := 0, locals := 20 } D y [.ref h, .int wide] ([(h, .inr (2, qF q k))]) (some (.int (zb (wayB q k wide)))) := by
  refine zR.of (cc := cX2_isInWay) (maxL := 2) (ret := (some .boolean)) (own := RX2) (by decide) rfl (Nat.le_of_ble_eq_true rfl) rfl ?_
  intro p e s m args below meth cd ls hx hb hr hml hown hts hlocks hP hK hl
  have hl : lv_has ls 2 [(0, .ref h), (1, .int wide)] := hl
  have hf15 : (Cond.fieldLink RX2 15 "StakeWeirs$Weir" "stakes" "I").before args s = true := hts _ (by decide +kernel)
  have hinX2 : ∀ w ∈ wsX20, w ∈ wsX2_isInWay := by decide +kernel
  refine lv_aload_n hx hb dX2_isInWay_0 rfl (lv_at hl 0 rfl) ?_
  refine zcRV (As := []) (rest := []) (st1 := [.int (zb (fishB q k))]) ⟨hx, hb, hml, hown, hts⟩ (c_X2_isFishing l D y (h) q k) (cwV 0 hts gX2_isInWay_X2_isFishing rfl rfl rfl (by decide +kernel) ⟨Nat.le_of_ble_eq_true rfl, Nat.le_of_ble_eq_true rfl⟩) hK (z_sub_P hP (z_in_1 (k := 0) rfl)) (ci := 2) (q0 := 0) rfl rfl rfl rfl hl.1 rfl (lv_room (Nat.le_of_ble_eq_true rfl)) dX2_isInWay_1 ⟨Nat.le_of_ble_eq_true rfl, Nat.le_of_ble_eq_true rfl⟩ rfl ?_
  refine lv_if_eq (tgt := 22) hx hb dX2_isInWay_4 (by decide) (fun c1 => ?_) (fun c1 => ?_)
  · have c1 : fishB q k = false := zb_f c1
    refine lv_iconst (v := 0) hx hb dX2_isInWay_22 (by decide) ?_
    exact zR_z hx hb hr hlocks dX2_isInWay_23 (Or.inl rfl) (by simp [wayB, zb, c1])
  · have c1 : fishB q k = true := zb_t c1
    refine lv_aload_n hx hb dX2_isInWay_7 rfl (lv_at hl 0 rfl) ?_
    refine va_get (D := D) (ci := 2) (v := .int ((q 1 k))) (C := RX2) (T := TX2) (N := 8) hx hb hts hinX2 hown hK hP (0) rfl rfl 1 (by decide) hf15 (fun _ h9 => h9) rfl dX2_isInWay_8 ?_
    refine lv_bipush (v := 30) hx hb dX2_isInWay_11 (by decide) ?_
    refine lv_iload_n hx hb dX2_isInWay_13 rfl (lv_at hl 1 rfl) ?_
    refine lv_isub hx hb dX2_isInWay_14 ?_
    refine lv_icmp_le (tgt := 22) hx hb dX2_isInWay_15 (by decide) (fun c2 => ?_) (fun c2 => ?_)
    · have d2 := Int32.not_lt.mpr c2
      refine lv_iconst (v := 0) hx hb dX2_isInWay_22 (by decide) ?_
      exact zR_z hx hb hr hlocks dX2_isInWay_23 (Or.inl rfl) (by simp [wayB, zb, c1, c2, d2])
    · have d2 := Int32.not_le.mp c2
      refine lv_iconst (v := 1) hx hb dX2_isInWay_18 (by decide) ?_
      refine lv_goto (tgt := 23) hx hb dX2_isInWay_19 (by decide) ?_
      exact zR_z hx hb hr hlocks dX2_isInWay_23 (Or.inr rfl) (by simp [wayB, zb, c1, c2, d2])
set_option maxHeartbeats 4000000 in
set_option maxRecDepth 100000 in
theorem c_X2_fact_0 (l : Launch) (D : va_G) (y : Nat → ClassId) (h : Nat) (q : Fld) (k : Nat)  : zR l yX2_fact wsX2_fact { frames := 0, cells := 0, slots := 0, locals := 0 } D y [.ref h, .int 0] ([(h, .inr (2, qF q k))]) (some (.int (factW q k 0))) := by
  refine zR.of (cc := cX2_fact) (maxL := 2) (ret := (some .int)) (own := RX2) (by decide) rfl (Nat.le_of_ble_eq_true rfl) rfl ?_
  intro p e s m args below meth cd ls hx hb hr hml hown hts hlocks hP hK hl
  have hl : lv_has ls 2 [(0, .ref h), (1, .int 0)] := hl
  have hf9 : (Cond.fieldLink RX2 9 "StakeWeirs$Weir" "place" "I").before args s = true := hts _ (by decide +kernel)
  have hinX2 : ∀ w ∈ wsX20, w ∈ wsX2_fact := by decide +kernel
  refine lv_iload_n hx hb dX2_fact_0 rfl (lv_at hl 1 rfl) ?_
  refine lv_tableIn (off := 43) (tgt := 44) hx hb dX2_fact_1 (by decide) (by decide) rfl (by decide) ?_
  refine lv_aload_n hx hb dX2_fact_44 rfl (lv_at hl 0 rfl) ?_
  refine va_get (D := D) (ci := 2) (v := .int ((q 0 k))) (C := RX2) (T := TX2) (N := 8) hx hb hts hinX2 hown hK hP (0) rfl rfl 0 (by decide) hf9 (fun _ h9 => h9) rfl dX2_fact_45 ?_
  exact zR_i hx hb hr hlocks dX2_fact_48 rfl
set_option maxHeartbeats 4000000 in
set_option maxRecDepth 100000 in
theorem c_X2_fact_1 (l : Launch) (D : va_G) (y : Nat → ClassId) (h : Nat) (q : Fld) (k : Nat)  : zR l yX2_fact wsX2_fact { frames := 0, cells := 0, slots := 0, locals := 0 } D y [.ref h, .int 1] ([(h, .inr (2, qF q k))]) (some (.int (factW q k 1))) := by
  refine zR.of (cc := cX2_fact) (maxL := 2) (ret := (some .int)) (own := RX2) (by decide) rfl (Nat.le_of_ble_eq_true rfl) rfl ?_
  intro p e s m args below meth cd ls hx hb hr hml hown hts hlocks hP hK hl
  have hl : lv_has ls 2 [(0, .ref h), (1, .int 1)] := hl
  have hf15 : (Cond.fieldLink RX2 15 "StakeWeirs$Weir" "stakes" "I").before args s = true := hts _ (by decide +kernel)
  have hinX2 : ∀ w ∈ wsX20, w ∈ wsX2_fact := by decide +kernel
  refine lv_iload_n hx hb dX2_fact_0 rfl (lv_at hl 1 rfl) ?_
  refine lv_tableIn (off := 48) (tgt := 49) hx hb dX2_fact_1 (by decide) (by decide) rfl (by decide) ?_
  refine lv_aload_n hx hb dX2_fact_49 rfl (lv_at hl 0 rfl) ?_
  refine va_get (D := D) (ci := 2) (v := .int ((q 1 k))) (C := RX2) (T := TX2) (N := 8) hx hb hts hinX2 hown hK hP (0) rfl rfl 1 (by decide) hf15 (fun _ h9 => h9) rfl dX2_fact_50 ?_
  exact zR_i hx hb hr hlocks dX2_fact_53 rfl
set_option maxHeartbeats 4000000 in
set_option maxRecDepth 100000 in
theorem c_X2_fact_2 (l : Launch) (D : va_G) (y : Nat → ClassId) (h : Nat) (q : Fld) (k : Nat)  : zR l yX2_fact wsX2_fact { frames := 0, cells := 0, slots := 0, locals := 0 } D y [.ref h, .int 2] ([(h, .inr (2, qF q k))]) (some (.int (factW q k 2))) := by
  refine zR.of (cc := cX2_fact) (maxL := 2) (ret := (some .int)) (own := RX2) (by decide) rfl (Nat.le_of_ble_eq_true rfl) rfl ?_
  intro p e s m args below meth cd ls hx hb hr hml hown hts hlocks hP hK hl
  have hl : lv_has ls 2 [(0, .ref h), (1, .int 2)] := hl
  have hf18 : (Cond.fieldLink RX2 18 "StakeWeirs$Weir" "wattle" "I").before args s = true := hts _ (by decide +kernel)
  have hinX2 : ∀ w ∈ wsX20, w ∈ wsX2_fact := by decide +kernel
  refine lv_iload_n hx hb dX2_fact_0 rfl (lv_at hl 1 rfl) ?_
  refine lv_tableIn (off := 53) (tgt := 54) hx hb dX2_fact_1 (by decide) (by decide) rfl (by decide) ?_
  refine lv_aload_n hx hb dX2_fact_54 rfl (lv_at hl 0 rfl) ?_
  refine va_get (D := D) (ci := 2) (v := .int ((q 2 k))) (C := RX2) (T := TX2) (N := 8) hx hb hts hinX2 hown hK hP (0) rfl rfl 2 (by decide) hf18 (fun _ h9 => h9) rfl dX2_fact_55 ?_
  exact zR_i hx hb hr hlocks dX2_fact_58 rfl
set_option maxHeartbeats 4000000 in
set_option maxRecDepth 100000 in
theorem c_X2_fact_3 (l : Launch) (D : va_G) (y : Nat → ClassId) (h : Nat) (q : Fld) (k : Nat)  : zR l yX2_fact wsX2_fact { frames := 0, cells := 0, slots := 0, locals := 0 } D y [.ref h, .int 3] ([(h, .inr (2, qF q k))]) (some (.int (factW q k 3))) := by
  refine zR.of (cc := cX2_fact) (maxL := 2) (ret := (some .int)) (own := RX2) (by decide) rfl (Nat.le_of_ble_eq_true rfl) rfl ?_
  intro p e s m args below meth cd ls hx hb hr hml hown hts hlocks hP hK hl
  have hl : lv_has ls 2 [(0, .ref h), (1, .int 3)] := hl
  have hf21 : (Cond.fieldLink RX2 21 "StakeWeirs$Weir" "rent" "I").before args s = true := hts _ (by decide +kernel)
  have hinX2 : ∀ w ∈ wsX20, w ∈ wsX2_fact := by decide +kernel
  refine lv_iload_n hx hb dX2_fact_0 rfl (lv_at hl 1 rfl) ?_
  refine lv_tableIn (off := 58) (tgt := 59) hx hb dX2_fact_1 (by decide) (by decide) rfl (by decide) ?_
  refine lv_aload_n hx hb dX2_fact_59 rfl (lv_at hl 0 rfl) ?_
  refine va_get (D := D) (ci := 2) (v := .int ((q 3 k))) (C := RX2) (T := TX2) (N := 8) hx hb hts hinX2 hown hK hP (0) rfl rfl 3 (by decide) hf21 (fun _ h9 => h9) rfl dX2_fact_60 ?_
  exact zR_i hx hb hr hlocks dX2_fact_63 rfl
set_option maxHeartbeats 4000000 in
set_option maxRecDepth 100000 in
theorem c_X2_fact_4 (l : Launch) (D : va_G) (y : Nat → ClassId) (h : Nat) (q : Fld) (k : Nat)  : zR l yX2_fact wsX2_fact { frames := 0, cells := 0, slots := 0, locals := 0 } D y [.ref h, .int 4] ([(h, .inr (2, qF q k))]) (some (.int (factW q k 4))) := by
  refine zR.of (cc := cX2_fact) (maxL := 2) (ret := (some .int)) (own := RX2) (by decide) rfl (Nat.le_of_ble_eq_true rfl) rfl ?_
  intro p e s m args below meth cd ls hx hb hr hml hown hts hlocks hP hK hl
  have hl : lv_has ls 2 [(0, .ref h), (1, .int 4)] := hl
  have hf24 : (Cond.fieldLink RX2 24 "StakeWeirs$Weir" "coins" "I").before args s = true := hts _ (by decide +kernel)
  have hinX2 : ∀ w ∈ wsX20, w ∈ wsX2_fact := by decide +kernel
  refine lv_iload_n hx hb dX2_fact_0 rfl (lv_at hl 1 rfl) ?_
  refine lv_tableIn (off := 63) (tgt := 64) hx hb dX2_fact_1 (by decide) (by decide) rfl (by decide) ?_
  refine lv_aload_n hx hb dX2_fact_64 rfl (lv_at hl 0 rfl) ?_
  refine va_get (D := D) (ci := 2) (v := .int ((q 4 k))) (C := RX2) (T := TX2) (N := 8) hx hb hts hinX2 hown hK hP (0) rfl rfl 4 (by decide) hf24 (fun _ h9 => h9) rfl dX2_fact_65 ?_
  exact zR_i hx hb hr hlocks dX2_fact_68 rfl
set_option maxHeartbeats 4000000 in
set_option maxRecDepth 100000 in
theorem c_X2_fact_5 (l : Launch) (D : va_G) (y : Nat → ClassId) (h : Nat) (q : Fld) (k : Nat)  : zR l yX2_fact wsX2_fact { frames := 0, cells := 0, slots := 0, locals := 0 } D y [.ref h, .int 5] ([(h, .inr (2, qF q k))]) (some (.int (factW q k 5))) := by
  refine zR.of (cc := cX2_fact) (maxL := 2) (ret := (some .int)) (own := RX2) (by decide) rfl (Nat.le_of_ble_eq_true rfl) rfl ?_
  intro p e s m args below meth cd ls hx hb hr hml hown hts hlocks hP hK hl
  have hl : lv_has ls 2 [(0, .ref h), (1, .int 5)] := hl
  have hf27 : (Cond.fieldLink RX2 27 "StakeWeirs$Weir" "eels" "I").before args s = true := hts _ (by decide +kernel)
  have hinX2 : ∀ w ∈ wsX20, w ∈ wsX2_fact := by decide +kernel
  refine lv_iload_n hx hb dX2_fact_0 rfl (lv_at hl 1 rfl) ?_
  refine lv_tableIn (off := 68) (tgt := 69) hx hb dX2_fact_1 (by decide) (by decide) rfl (by decide) ?_
  refine lv_aload_n hx hb dX2_fact_69 rfl (lv_at hl 0 rfl) ?_
  refine va_get (D := D) (ci := 2) (v := .int ((q 5 k))) (C := RX2) (T := TX2) (N := 8) hx hb hts hinX2 hown hK hP (0) rfl rfl 5 (by decide) hf27 (fun _ h9 => h9) rfl dX2_fact_70 ?_
  exact zR_i hx hb hr hlocks dX2_fact_73 rfl
set_option maxHeartbeats 4000000 in
set_option maxRecDepth 100000 in
theorem c_X2_fact_6 (l : Launch) (D : va_G) (y : Nat → ClassId) (h : Nat) (q : Fld) (k : Nat)  : zR l yX2_fact wsX2_fact { frames := 0, cells := 0, slots := 0, locals := 0 } D y [.ref h, .int 6] ([(h, .inr (2, qF q k))]) (some (.int (factW q k 6))) := by
  refine zR.of (cc := cX2_fact) (maxL := 2) (ret := (some .int)) (own := RX2) (by decide) rfl (Nat.le_of_ble_eq_true rfl) rfl ?_
  intro p e s m args below meth cd ls hx hb hr hml hown hts hlocks hP hK hl
  have hl : lv_has ls 2 [(0, .ref h), (1, .int 6)] := hl
  have hf30 : (Cond.fieldLink RX2 30 "StakeWeirs$Weir" "open" "Z").before args s = true := hts _ (by decide +kernel)
  have hinX2 : ∀ w ∈ wsX20, w ∈ wsX2_fact := by decide +kernel
  refine lv_iload_n hx hb dX2_fact_0 rfl (lv_at hl 1 rfl) ?_
  refine lv_tableIn (off := 73) (tgt := 74) hx hb dX2_fact_1 (by decide) (by decide) rfl (by decide) ?_
  refine lv_aload_n hx hb dX2_fact_74 rfl (lv_at hl 0 rfl) ?_
  refine va_get (D := D) (ci := 2) (v := .int ((q 6 k))) (C := RX2) (T := TX2) (N := 8) hx hb hts hinX2 hown hK hP (0) rfl rfl 6 (by decide) hf30 (fun _ h9 => h9) rfl dX2_fact_75 ?_
  refine lv_if_eq (tgt := 85) hx hb dX2_fact_78 (by decide) (fun c1 => ?_) (fun c1 => ?_)
  · have d1 := c1
    refine lv_iconst (v := 0) hx hb dX2_fact_85 (by decide) ?_
    exact zR_i hx hb hr hlocks dX2_fact_86 (by simp [factW, c1, d1])
  · have d1 := c1
    refine lv_iconst (v := 1) hx hb dX2_fact_81 (by decide) ?_
    refine lv_goto (tgt := 86) hx hb dX2_fact_82 (by decide) ?_
    exact zR_i hx hb hr hlocks dX2_fact_86 (by simp [factW, c1, d1])
set_option maxHeartbeats 4000000 in
set_option maxRecDepth 100000 in
theorem c_X2_fact_7 (l : Launch) (D : va_G) (y : Nat → ClassId) (h : Nat) (q : Fld) (k : Nat)  : zR l yX2_fact wsX2_fact { frames := 0, cells := 0, slots := 0, locals := 0 } D y [.ref h, .int 7] ([(h, .inr (2, qF q k))]) (some (.int (factW q k 7))) := by
  refine zR.of (cc := cX2_fact) (maxL := 2) (ret := (some .int)) (own := RX2) (by decide) rfl (Nat.le_of_ble_eq_true rfl) rfl ?_
  intro p e s m args below meth cd ls hx hb hr hml hown hts hlocks hP hK hl
  have hl : lv_has ls 2 [(0, .ref h), (1, .int 7)] := hl
  have hf34 : (Cond.fieldLink RX2 34 "StakeWeirs$Weir" "owed" "I").before args s = true := hts _ (by decide +kernel)
  have hinX2 : ∀ w ∈ wsX20, w ∈ wsX2_fact := by decide +kernel
  refine lv_iload_n hx hb dX2_fact_0 rfl (lv_at hl 1 rfl) ?_
  refine lv_tableOut (tgt := 87) hx hb dX2_fact_1 (by decide) (by decide) ?_
  refine lv_aload_n hx hb dX2_fact_87 rfl (lv_at hl 0 rfl) ?_
  refine va_get (D := D) (ci := 2) (v := .int ((q 7 k))) (C := RX2) (T := TX2) (N := 8) hx hb hts hinX2 hown hK hP (0) rfl rfl 7 (by decide) hf34 (fun _ h9 => h9) rfl dX2_fact_88 ?_
  exact zR_i hx hb hr hlocks dX2_fact_91 rfl
set_option maxHeartbeats 4000000 in
set_option maxRecDepth 100000 in
theorem c_X2_loseWattle (l : Launch) (D : va_G) (y : Nat → ClassId) (h : Nat) (q : Fld) (k : Nat) (x : Int32)  (sz : Nat) : zM l yX2_loseWattle wsX2_loseWattle { frames := 0, cells := 0, slots := 0, locals := 0 } D y [.ref h, .int x] ([(h, .inr (2, qF q k))]) sz (none) ([(h, .inr (2, qF (loseW q k x) k))]) 0 0 := by
  refine zM.of (cc := cX2_loseWattle) (maxL := 2) (ret := none) (own := RX2) (by decide) rfl (Nat.le_of_ble_eq_true rfl) rfl ?_
  intro p e s m args below meth cd ls A hx hb hr hml hown hts hlocks hP hK hD hA hS hl hin
  have hS0 := hS
  have hl : lv_has ls 2 [(0, .ref h), (1, .int x)] := hl
  have hf18 : (Cond.fieldLink RX2 18 "StakeWeirs$Weir" "wattle" "I").before args s = true := hts _ (by decide +kernel)
  have hinX2 : ∀ w ∈ wsX20, w ∈ wsX2_loseWattle := by decide +kernel
  refine lv_aload_n hx hb dX2_loseWattle_0 rfl (lv_at hl 0 rfl) ?_
  refine lv_aload_n hx hb dX2_loseWattle_1 rfl (lv_at hl 0 rfl) ?_
  refine va_get (D := D) (ci := 2) (v := .int ((q 2 k))) (C := RX2) (T := TX2) (N := 8) hx hb hts hinX2 hown hK hP (0) rfl rfl 2 (by decide) hf18 (fun _ h9 => h9) rfl dX2_loseWattle_2 ?_
  refine lv_iload_n hx hb dX2_loseWattle_5 rfl (lv_at hl 1 rfl) ?_
  refine lv_icmp_le (tgt := 18) hx hb dX2_loseWattle_6 (by decide) (fun c1 => ?_) (fun c1 => ?_)
  · have d1 := Int32.not_lt.mpr c1
    refine lv_iconst (v := 0) hx hb dX2_loseWattle_18 (by decide) ?_
    refine va_put (D := D) (ci := 2) (v := .int 0) (ty := .int) (C := RX2) (T := TX2) (N := 8) hx hb hts hinX2 tyX2 tyX2_ok nmX2 hown hK hP hD hS (0) rfl rfl 2 (by decide) hf18 (fun _ h9 => h9) rfl (by decide +kernel) rfl rfl (Nat.le_of_ble_eq_true rfl) dX2_loseWattle_19 (fun H locs hP hD hS => ?_)
    have hP : va_P D vwCl ([(h, .inr (2, qF (up2 q 2 k 0) k))]) H := by rw [← qF_2]; exact hP
    have hD : va_D A ([(h, .inr (2, qF (up2 q 2 k 0) k))]) := by rw [← qF_2]; exact hD
    exact zM_v hx hb hr hlocks hS dX2_loseWattle_22 rfl (by rw [show loseW q k x = (up2 q 2 k 0) from by simp [loseW, loseI, c1, d1]]; exact hP)
  · have d1 := Int32.not_le.mp c1
    refine lv_aload_n hx hb dX2_loseWattle_9 rfl (lv_at hl 0 rfl) ?_
    refine va_get (D := D) (ci := 2) (v := .int ((q 2 k))) (C := RX2) (T := TX2) (N := 8) hx hb hts hinX2 hown hK hP (0) rfl rfl 2 (by decide) hf18 (fun _ h9 => h9) rfl dX2_loseWattle_10 ?_
    refine lv_iload_n hx hb dX2_loseWattle_13 rfl (lv_at hl 1 rfl) ?_
    refine lv_isub hx hb dX2_loseWattle_14 ?_
    refine lv_goto (tgt := 19) hx hb dX2_loseWattle_15 (by decide) ?_
    refine va_put (D := D) (ci := 2) (v := .int (((q 2 k) - x))) (ty := .int) (C := RX2) (T := TX2) (N := 8) hx hb hts hinX2 tyX2 tyX2_ok nmX2 hown hK hP hD hS (0) rfl rfl 2 (by decide) hf18 (fun _ h9 => h9) rfl (by decide +kernel) rfl rfl (Nat.le_of_ble_eq_true rfl) dX2_loseWattle_19 (fun H locs hP hD hS => ?_)
    have hP : va_P D vwCl ([(h, .inr (2, qF (up2 q 2 k ((q 2 k) - x)) k))]) H := by rw [← qF_2]; exact hP
    have hD : va_D A ([(h, .inr (2, qF (up2 q 2 k ((q 2 k) - x)) k))]) := by rw [← qF_2]; exact hD
    exact zM_v hx hb hr hlocks hS dX2_loseWattle_22 rfl (by rw [show loseW q k x = (up2 q 2 k ((q 2 k) - x)) from by simp [loseW, loseI, c1, d1]]; exact hP)
set_option maxHeartbeats 4000000 in
set_option maxRecDepth 100000 in
theorem c_X2_catchOf (l : Launch) (D : va_G) (y : Nat → ClassId) (h : Nat) (q : Fld) (k : Nat) (x : Int32)  (sz : Nat) : zM l yX2_catchOf wsX2_catchOf { frames := 1, cells := 0, slots := 0, locals := 21 } D y [.ref h, .int x] ([(h, .inr (2, qF q k))]) sz (some (.int (caughtI q k x))) ([(h, .inr (2, qF (catchW q k x) k))]) 0 0 := by
  refine zM.of (cc := cX2_catchOf) (maxL := 3) (ret := (some .int)) (own := RX2) (by decide) rfl (Nat.le_of_ble_eq_true rfl) rfl ?_
  intro p e s m args below meth cd ls A hx hb hr hml hown hts hlocks hP hK hD hA hS hl hin
  have hS0 := hS
  have hl : lv_has ls 3 [(0, .ref h), (1, .int x)] := hl
  have hf15 : (Cond.fieldLink RX2 15 "StakeWeirs$Weir" "stakes" "I").before args s = true := hts _ (by decide +kernel)
  have hinX2 : ∀ w ∈ wsX20, w ∈ wsX2_catchOf := by decide +kernel
  have hf18 : (Cond.fieldLink RX2 18 "StakeWeirs$Weir" "wattle" "I").before args s = true := hts _ (by decide +kernel)
  have hf27 : (Cond.fieldLink RX2 27 "StakeWeirs$Weir" "eels" "I").before args s = true := hts _ (by decide +kernel)
  have hlmin41 : (Cond.methodLink RX2 41 Lib.Math.min.name).before args s = true := hts _ (by decide +kernel)
  have hstmin : (Cond.static Lib.Math.min.name).before args s = true := hts _ (by decide +kernel)
  have hiM : (Cond.initialized "java/lang/Math").before args s = true := hts _ (by decide +kernel)
  have hcmin : (Cond.code Lib.Math.min.name Lib.Math.min.code 2 (some .int)).before args s = true := hts _ (by decide +kernel)
  refine lv_iload_n hx hb dX2_catchOf_0 rfl (lv_at hl 1 rfl) ?_
  refine lv_aload_n hx hb dX2_catchOf_1 rfl (lv_at hl 0 rfl) ?_
  refine va_get (D := D) (ci := 2) (v := .int ((q 1 k))) (C := RX2) (T := TX2) (N := 8) hx hb hts hinX2 hown hK hP (0) rfl rfl 1 (by decide) hf15 (fun _ h9 => h9) rfl dX2_catchOf_2 ?_
  refine lv_imul hx hb dX2_catchOf_5 ?_
  refine lv_aload_n hx hb dX2_catchOf_6 rfl (lv_at hl 0 rfl) ?_
  refine va_get (D := D) (ci := 2) (v := .int ((q 2 k))) (C := RX2) (T := TX2) (N := 8) hx hb hts hinX2 hown hK hP (0) rfl rfl 2 (by decide) hf18 (fun _ h9 => h9) rfl dX2_catchOf_7 ?_
  refine lv_imul hx hb dX2_catchOf_10 ?_
  refine lv_sipush (v := 3000) hx hb dX2_catchOf_11 (by decide) ?_
  refine lv_idiv hx hb dX2_catchOf_14 (by decide) ?_
  refine lv_sipush (v := 200) hx hb dX2_catchOf_15 (by decide) ?_
  refine lv_aload_n hx hb dX2_catchOf_18 rfl (lv_at hl 0 rfl) ?_
  refine va_get (D := D) (ci := 2) (v := .int ((q 5 k))) (C := RX2) (T := TX2) (N := 8) hx hb hts hinX2 hown hK hP (0) rfl rfl 5 (by decide) hf27 (fun _ h9 => h9) rfl dX2_catchOf_19 ?_
  refine lv_isub hx hb dX2_catchOf_22 ?_
  refine va_mmin hx hb (hml.trans hl.1.symm) hown hlmin41 hstmin hiM hcmin (Nat.le_of_ble_eq_true rfl) (Nat.le_of_ble_eq_true rfl) (Nat.le_of_ble_eq_true rfl) (Nat.le_of_ble_eq_true rfl) dX2_catchOf_23 ?_
  refine lv_istore_n (lv' := [(2, .int ((minI ((((x * (q 1 k)) * (q 2 k)) / 3000)) ((200 - (q 5 k)))))), (0, .ref h), (1, .int x)]) hx hb dX2_catchOf_26 rfl hl (by decide) rfl (fun ls hl => ?_)
  refine lv_aload_n hx hb dX2_catchOf_27 rfl (lv_at hl 1 rfl) ?_
  refine lv_dup hx hb dX2_catchOf_28 rfl ?_
  refine va_get (D := D) (ci := 2) (v := .int ((q 5 k))) (C := RX2) (T := TX2) (N := 8) hx hb hts hinX2 hown hK hP (0) rfl rfl 5 (by decide) hf27 (fun _ h9 => h9) rfl dX2_catchOf_29 ?_
  refine lv_iload_n hx hb dX2_catchOf_32 rfl (lv_at hl 0 rfl) ?_
  refine lv_iadd hx hb dX2_catchOf_33 ?_
  refine va_put (D := D) (ci := 2) (v := .int (((q 5 k) + (minI ((((x * (q 1 k)) * (q 2 k)) / 3000)) ((200 - (q 5 k))))))) (ty := .int) (C := RX2) (T := TX2) (N := 8) hx hb hts hinX2 tyX2 tyX2_ok nmX2 hown hK hP hD hS (0) rfl rfl 5 (by decide) hf27 (fun _ h9 => h9) rfl (by decide +kernel) rfl rfl (Nat.le_of_ble_eq_true rfl) dX2_catchOf_34 (fun H locs hP hD hS => ?_)
  have hP : va_P D vwCl ([(h, .inr (2, qF (up2 q 5 k ((q 5 k) + (minI ((((x * (q 1 k)) * (q 2 k)) / 3000)) ((200 - (q 5 k)))))) k))]) H := by rw [← qF_5]; exact hP
  have hD : va_D A ([(h, .inr (2, qF (up2 q 5 k ((q 5 k) + (minI ((((x * (q 1 k)) * (q 2 k)) / 3000)) ((200 - (q 5 k)))))) k))]) := by rw [← qF_5]; exact hD
  refine lv_iload_n hx hb dX2_catchOf_37 rfl (lv_at hl 0 rfl) ?_
  exact zM_i hx hb hr hlocks hS dX2_catchOf_38 rfl hP
set_option maxHeartbeats 4000000 in
set_option maxRecDepth 100000 in
theorem c_X2_breakFor (l : Launch) (D : va_G) (y : Nat → ClassId) (h : Nat) (q : Fld) (k : Nat) (x : Int32)  (sz : Nat) : zM l yX2_breakFor wsX2_breakFor { frames := 1, cells := 0, slots := 0, locals := 21 } D y [.ref h, .int x] ([(h, .inr (2, qF q k))]) sz (some (.int (fineI q k))) ([(h, .inr (2, qF (breakW q k x) k))]) 0 0 := by
  refine zM.of (cc := cX2_breakFor) (maxL := 3) (ret := (some .int)) (own := RX2) (by decide) rfl (Nat.le_of_ble_eq_true rfl) rfl ?_
  intro p e s m args below meth cd ls A hx hb hr hml hown hts hlocks hP hK hD hA hS hl hin
  have hS0 := hS
  have hl : lv_has ls 3 [(0, .ref h), (1, .int x)] := hl
  have hf15 : (Cond.fieldLink RX2 15 "StakeWeirs$Weir" "stakes" "I").before args s = true := hts _ (by decide +kernel)
  have hinX2 : ∀ w ∈ wsX20, w ∈ wsX2_breakFor := by decide +kernel
  have hf24 : (Cond.fieldLink RX2 24 "StakeWeirs$Weir" "coins" "I").before args s = true := hts _ (by decide +kernel)
  have hlmin41 : (Cond.methodLink RX2 41 Lib.Math.min.name).before args s = true := hts _ (by decide +kernel)
  have hstmin : (Cond.static Lib.Math.min.name).before args s = true := hts _ (by decide +kernel)
  have hiM : (Cond.initialized "java/lang/Math").before args s = true := hts _ (by decide +kernel)
  have hcmin : (Cond.code Lib.Math.min.name Lib.Math.min.code 2 (some .int)).before args s = true := hts _ (by decide +kernel)
  refine lv_aload_n hx hb dX2_breakFor_0 rfl (lv_at hl 0 rfl) ?_
  refine lv_bipush (v := 30) hx hb dX2_breakFor_1 (by decide) ?_
  refine lv_iload_n hx hb dX2_breakFor_3 rfl (lv_at hl 1 rfl) ?_
  refine lv_isub hx hb dX2_breakFor_4 ?_
  refine va_put (D := D) (ci := 2) (v := .int ((30 - x))) (ty := .int) (C := RX2) (T := TX2) (N := 8) hx hb hts hinX2 tyX2 tyX2_ok nmX2 hown hK hP hD hS (0) rfl rfl 1 (by decide) hf15 (fun _ h9 => h9) rfl (by decide +kernel) rfl rfl (Nat.le_of_ble_eq_true rfl) dX2_breakFor_5 (fun H locs hP hD hS => ?_)
  have hP : va_P D vwCl ([(h, .inr (2, qF (up2 q 1 k (30 - x)) k))]) H := by rw [← qF_1]; exact hP
  have hD : va_D A ([(h, .inr (2, qF (up2 q 1 k (30 - x)) k))]) := by rw [← qF_1]; exact hD
  refine lv_aload_n hx hb dX2_breakFor_8 rfl (lv_at hl 0 rfl) ?_
  refine lv_bipush (v := 20) hx hb dX2_breakFor_9 (by decide) ?_
  refine zcMV (As := [.int 20]) (rest := []) (st1 := []) (cells1 := 0) (slots1 := 0) ⟨hx, hb, hml, hown, hts⟩ (c_X2_loseWattle l D y (h) (up2 q 1 k (30 - x)) k 20 _) (cwV 1 hts gX2_breakFor_X2_loseWattle rfl rfl rfl (by decide +kernel) ⟨Nat.le_of_ble_eq_true rfl, Nat.le_of_ble_eq_true rfl⟩) hK (z_sub_P hP (z_in_1 (k := 0) rfl)) z_D_1 (ci := 2) (q0 := 0) rfl rfl rfl rfl hl.1 rfl (lv_room (Nat.le_of_ble_eq_true rfl)) dX2_breakFor_11 hS (z_sub_F hD hS hA (z_in_1 (k := 0) rfl)) ⟨Nat.le_of_ble_eq_true rfl, Nat.le_of_ble_eq_true rfl⟩ rfl rfl rfl (fun H locs hP1 hz hfr hS => ?_)
  obtain ⟨hP, hD⟩ := z_one hP hD (k := 0) rfl rfl hP1 hfr
  have hP : va_P D vwCl ([(h, .inr (2, qF (loseW (up2 q 1 k (30 - x)) k 20) k))]) H := hP
  have hD : va_D A ([(h, .inr (2, qF (loseW (up2 q 1 k (30 - x)) k 20) k))]) := hD
  refine lv_iconst (v := 3) hx hb dX2_breakFor_14 (by decide) ?_
  refine lv_aload_n hx hb dX2_breakFor_15 rfl (lv_at hl 0 rfl) ?_
  refine va_get (D := D) (ci := 2) (v := .int (((loseW (up2 q 1 k (30 - x)) k 20) 4 k))) (C := RX2) (T := TX2) (N := 8) hx hb hts hinX2 hown hK hP (0) rfl rfl 4 (by decide) hf24 (fun _ h9 => h9) rfl dX2_breakFor_16 ?_
  refine va_mmin hx hb (hml.trans hl.1.symm) hown hlmin41 hstmin hiM hcmin (Nat.le_of_ble_eq_true rfl) (Nat.le_of_ble_eq_true rfl) (Nat.le_of_ble_eq_true rfl) (Nat.le_of_ble_eq_true rfl) dX2_breakFor_19 ?_
  refine lv_istore_n (lv' := [(2, .int ((minI 3 (((loseW (up2 q 1 k (30 - x)) k 20) 4 k))))), (0, .ref h), (1, .int x)]) hx hb dX2_breakFor_22 rfl hl (by decide) rfl (fun ls hl => ?_)
  refine lv_aload_n hx hb dX2_breakFor_23 rfl (lv_at hl 1 rfl) ?_
  refine lv_dup hx hb dX2_breakFor_24 rfl ?_
  refine va_get (D := D) (ci := 2) (v := .int (((loseW (up2 q 1 k (30 - x)) k 20) 4 k))) (C := RX2) (T := TX2) (N := 8) hx hb hts hinX2 hown hK hP (0) rfl rfl 4 (by decide) hf24 (fun _ h9 => h9) rfl dX2_breakFor_25 ?_
  refine lv_iload_n hx hb dX2_breakFor_28 rfl (lv_at hl 0 rfl) ?_
  refine lv_isub hx hb dX2_breakFor_29 ?_
  refine va_put (D := D) (ci := 2) (v := .int ((((loseW (up2 q 1 k (30 - x)) k 20) 4 k) - (minI 3 (((loseW (up2 q 1 k (30 - x)) k 20) 4 k)))))) (ty := .int) (C := RX2) (T := TX2) (N := 8) hx hb hts hinX2 tyX2 tyX2_ok nmX2 hown hK hP hD hS (0) rfl rfl 4 (by decide) hf24 (fun _ h9 => h9) rfl (by decide +kernel) rfl rfl (Nat.le_of_ble_eq_true rfl) dX2_breakFor_30 (fun H locs hP hD hS => ?_)
  have hP : va_P D vwCl ([(h, .inr (2, qF (up2 (loseW (up2 q 1 k (30 - x)) k 20) 4 k (((loseW (up2 q 1 k (30 - x)) k 20) 4 k) - (minI 3 (((loseW (up2 q 1 k (30 - x)) k 20) 4 k))))) k))]) H := by rw [← qF_4]; exact hP
  have hD : va_D A ([(h, .inr (2, qF (up2 (loseW (up2 q 1 k (30 - x)) k 20) 4 k (((loseW (up2 q 1 k (30 - x)) k 20) 4 k) - (minI 3 (((loseW (up2 q 1 k (30 - x)) k 20) 4 k))))) k))]) := by rw [← qF_4]; exact hD
  refine lv_iload_n hx hb dX2_breakFor_33 rfl (lv_at hl 0 rfl) ?_
  exact zM_i hx hb hr hlocks hS dX2_breakFor_34 rfl hP
set_option maxHeartbeats 4000000 in
set_option maxRecDepth 100000 in
theorem c_X2_payRent (l : Launch) (D : va_G) (y : Nat → ClassId) (h : Nat) (q : Fld) (k : Nat)  (sz : Nat) : zM l yX2_payRent wsX2_payRent { frames := 0, cells := 0, slots := 0, locals := 0 } D y [.ref h] ([(h, .inr (2, qF q k))]) sz (some (.int (paidI q k))) ([(h, .inr (2, qF (payW q k) k))]) 0 0 := by
  refine zM.of (cc := cX2_payRent) (maxL := 1) (ret := (some .int)) (own := RX2) (by decide) rfl (Nat.le_of_ble_eq_true rfl) rfl ?_
  intro p e s m args below meth cd ls A hx hb hr hml hown hts hlocks hP hK hD hA hS hl hin
  have hS0 := hS
  have hl : lv_has ls 1 [(0, .ref h)] := hl
  have hf24 : (Cond.fieldLink RX2 24 "StakeWeirs$Weir" "coins" "I").before args s = true := hts _ (by decide +kernel)
  have hinX2 : ∀ w ∈ wsX20, w ∈ wsX2_payRent := by decide +kernel
  have hf21 : (Cond.fieldLink RX2 21 "StakeWeirs$Weir" "rent" "I").before args s = true := hts _ (by decide +kernel)
  have hf34 : (Cond.fieldLink RX2 34 "StakeWeirs$Weir" "owed" "I").before args s = true := hts _ (by decide +kernel)
  have hf27 : (Cond.fieldLink RX2 27 "StakeWeirs$Weir" "eels" "I").before args s = true := hts _ (by decide +kernel)
  refine lv_aload_n hx hb dX2_payRent_0 rfl (lv_at hl 0 rfl) ?_
  refine va_get (D := D) (ci := 2) (v := .int ((q 4 k))) (C := RX2) (T := TX2) (N := 8) hx hb hts hinX2 hown hK hP (0) rfl rfl 4 (by decide) hf24 (fun _ h9 => h9) rfl dX2_payRent_1 ?_
  refine lv_aload_n hx hb dX2_payRent_4 rfl (lv_at hl 0 rfl) ?_
  refine va_get (D := D) (ci := 2) (v := .int ((q 3 k))) (C := RX2) (T := TX2) (N := 8) hx hb hts hinX2 hown hK hP (0) rfl rfl 3 (by decide) hf21 (fun _ h9 => h9) rfl dX2_payRent_5 ?_
  refine lv_icmp_lt (tgt := 34) hx hb dX2_payRent_8 (by decide) (fun c1 => ?_) (fun c1 => ?_)
  · have d1 := Int32.not_le.mpr c1
    refine lv_aload_n hx hb dX2_payRent_34 rfl (lv_at hl 0 rfl) ?_
    refine lv_dup hx hb dX2_payRent_35 rfl ?_
    refine va_get (D := D) (ci := 2) (v := .int ((q 7 k))) (C := RX2) (T := TX2) (N := 8) hx hb hts hinX2 hown hK hP (0) rfl rfl 7 (by decide) hf34 (fun _ h9 => h9) rfl dX2_payRent_36 ?_
    refine lv_iconst (v := 1) hx hb dX2_payRent_39 (by decide) ?_
    refine lv_iadd hx hb dX2_payRent_40 ?_
    refine va_put (D := D) (ci := 2) (v := .int (((q 7 k) + 1))) (ty := .int) (C := RX2) (T := TX2) (N := 8) hx hb hts hinX2 tyX2 tyX2_ok nmX2 hown hK hP hD hS (0) rfl rfl 7 (by decide) hf34 (fun _ h9 => h9) rfl (by decide +kernel) rfl rfl (Nat.le_of_ble_eq_true rfl) dX2_payRent_41 (fun H locs hP hD hS => ?_)
    have hP : va_P D vwCl ([(h, .inr (2, qF (up2 q 7 k ((q 7 k) + 1)) k))]) H := by rw [← qF_7]; exact hP
    have hD : va_D A ([(h, .inr (2, qF (up2 q 7 k ((q 7 k) + 1)) k))]) := by rw [← qF_7]; exact hD
    refine lv_aload_n hx hb dX2_payRent_44 rfl (lv_at hl 0 rfl) ?_
    refine va_get (D := D) (ci := 2) (v := .int (((up2 q 7 k ((q 7 k) + 1)) 7 k))) (C := RX2) (T := TX2) (N := 8) hx hb hts hinX2 hown hK hP (0) rfl rfl 7 (by decide) hf34 (fun _ h9 => h9) rfl dX2_payRent_45 ?_
    refine zt_i (x' := (q 7 k + 1)) (up2_s _ _ _ _) ?_
    refine lv_iconst (v := 3) hx hb dX2_payRent_48 (by decide) ?_
    refine lv_icmp_lt (tgt := 57) hx hb dX2_payRent_49 (by decide) (fun c2 => ?_) (fun c2 => ?_)
    · have d2 := Int32.not_le.mpr c2
      refine lv_iconst (v := 0) hx hb dX2_payRent_57 (by decide) ?_
      exact zM_i hx hb hr hlocks hS dX2_payRent_58 (by simp [paidI, c1, d1, c2, d2]) (by rw [show payW q k = (up2 q 7 k ((q 7 k) + 1)) from by simp [payW, c1, d1, c2, d2]]; exact hP)
    · have d2 := Int32.not_lt.mp c2
      refine lv_aload_n hx hb dX2_payRent_52 rfl (lv_at hl 0 rfl) ?_
      refine lv_iconst (v := 0) hx hb dX2_payRent_53 (by decide) ?_
      refine va_put (D := D) (ci := 2) (v := .int 0) (ty := .int) (C := RX2) (T := TX2) (N := 8) hx hb hts hinX2 tyX2 tyX2_ok nmX2 hown hK hP hD hS (0) rfl rfl 5 (by decide) hf27 (fun _ h9 => h9) rfl (by decide +kernel) rfl rfl (Nat.le_of_ble_eq_true rfl) dX2_payRent_54 (fun H locs hP hD hS => ?_)
      have hP : va_P D vwCl ([(h, .inr (2, qF (up2 (up2 q 7 k ((q 7 k) + 1)) 5 k 0) k))]) H := by rw [← qF_5]; exact hP
      have hD : va_D A ([(h, .inr (2, qF (up2 (up2 q 7 k ((q 7 k) + 1)) 5 k 0) k))]) := by rw [← qF_5]; exact hD
      refine lv_iconst (v := 0) hx hb dX2_payRent_57 (by decide) ?_
      exact zM_i hx hb hr hlocks hS dX2_payRent_58 (by simp [paidI, c1, d1, c2, d2]) (by rw [show payW q k = (up2 (up2 q 7 k ((q 7 k) + 1)) 5 k 0) from by simp [payW, c1, d1, c2, d2]]; exact hP)
  · have d1 := Int32.not_lt.mp c1
    refine lv_aload_n hx hb dX2_payRent_11 rfl (lv_at hl 0 rfl) ?_
    refine lv_dup hx hb dX2_payRent_12 rfl ?_
    refine va_get (D := D) (ci := 2) (v := .int ((q 4 k))) (C := RX2) (T := TX2) (N := 8) hx hb hts hinX2 hown hK hP (0) rfl rfl 4 (by decide) hf24 (fun _ h9 => h9) rfl dX2_payRent_13 ?_
    refine lv_aload_n hx hb dX2_payRent_16 rfl (lv_at hl 0 rfl) ?_
    refine va_get (D := D) (ci := 2) (v := .int ((q 3 k))) (C := RX2) (T := TX2) (N := 8) hx hb hts hinX2 hown hK hP (0) rfl rfl 3 (by decide) hf21 (fun _ h9 => h9) rfl dX2_payRent_17 ?_
    refine lv_isub hx hb dX2_payRent_20 ?_
    refine va_put (D := D) (ci := 2) (v := .int (((q 4 k) - (q 3 k)))) (ty := .int) (C := RX2) (T := TX2) (N := 8) hx hb hts hinX2 tyX2 tyX2_ok nmX2 hown hK hP hD hS (0) rfl rfl 4 (by decide) hf24 (fun _ h9 => h9) rfl (by decide +kernel) rfl rfl (Nat.le_of_ble_eq_true rfl) dX2_payRent_21 (fun H locs hP hD hS => ?_)
    have hP : va_P D vwCl ([(h, .inr (2, qF (up2 q 4 k ((q 4 k) - (q 3 k))) k))]) H := by rw [← qF_4]; exact hP
    have hD : va_D A ([(h, .inr (2, qF (up2 q 4 k ((q 4 k) - (q 3 k))) k))]) := by rw [← qF_4]; exact hD
    refine lv_aload_n hx hb dX2_payRent_24 rfl (lv_at hl 0 rfl) ?_
    refine lv_iconst (v := 0) hx hb dX2_payRent_25 (by decide) ?_
    refine va_put (D := D) (ci := 2) (v := .int 0) (ty := .int) (C := RX2) (T := TX2) (N := 8) hx hb hts hinX2 tyX2 tyX2_ok nmX2 hown hK hP hD hS (0) rfl rfl 7 (by decide) hf34 (fun _ h9 => h9) rfl (by decide +kernel) rfl rfl (Nat.le_of_ble_eq_true rfl) dX2_payRent_26 (fun H locs hP hD hS => ?_)
    have hP : va_P D vwCl ([(h, .inr (2, qF (up2 (up2 q 4 k ((q 4 k) - (q 3 k))) 7 k 0) k))]) H := by rw [← qF_7]; exact hP
    have hD : va_D A ([(h, .inr (2, qF (up2 (up2 q 4 k ((q 4 k) - (q 3 k))) 7 k 0) k))]) := by rw [← qF_7]; exact hD
    refine lv_aload_n hx hb dX2_payRent_29 rfl (lv_at hl 0 rfl) ?_
    refine va_get (D := D) (ci := 2) (v := .int ((q 3 k))) (C := RX2) (T := TX2) (N := 8) hx hb hts hinX2 hown hK hP (0) rfl rfl 3 (by decide) hf21 (fun _ h9 => h9) rfl dX2_payRent_30 ?_
    exact zM_i hx hb hr hlocks hS dX2_payRent_33 (by simp [paidI, c1, d1]) (by rw [show payW q k = (up2 (up2 q 4 k ((q 4 k) - (q 3 k))) 7 k 0) from by simp [payW, c1, d1]]; exact hP)
set_option maxHeartbeats 4000000 in
set_option maxRecDepth 100000 in
theorem c_X2_makeNew (l : Launch) (D : va_G) (y : Nat → ClassId) (h : Nat) (q : Fld) (k : Nat) (p0 p1 p2 : Int32)  (sz : Nat) : zM l yX2_makeNew wsX2_makeNew { frames := 0, cells := 0, slots := 0, locals := 0 } D y [.ref h, .int p0, .int p1, .int p2] ([(h, .inr (2, qF q k))]) sz (none) ([(h, .inr (2, qF (newW q k p0 p1 p2) k))]) 0 0 := by
  refine zM.of (cc := cX2_makeNew) (maxL := 4) (ret := none) (own := RX2) (by decide) rfl (Nat.le_of_ble_eq_true rfl) rfl ?_
  intro p e s m args below meth cd ls A hx hb hr hml hown hts hlocks hP hK hD hA hS hl hin
  have hS0 := hS
  have hl : lv_has ls 4 [(0, .ref h), (1, .int p0), (2, .int p1), (3, .int p2)] := hl
  have hf9 : (Cond.fieldLink RX2 9 "StakeWeirs$Weir" "place" "I").before args s = true := hts _ (by decide +kernel)
  have hinX2 : ∀ w ∈ wsX20, w ∈ wsX2_makeNew := by decide +kernel
  have hf15 : (Cond.fieldLink RX2 15 "StakeWeirs$Weir" "stakes" "I").before args s = true := hts _ (by decide +kernel)
  have hf18 : (Cond.fieldLink RX2 18 "StakeWeirs$Weir" "wattle" "I").before args s = true := hts _ (by decide +kernel)
  have hf21 : (Cond.fieldLink RX2 21 "StakeWeirs$Weir" "rent" "I").before args s = true := hts _ (by decide +kernel)
  have hf24 : (Cond.fieldLink RX2 24 "StakeWeirs$Weir" "coins" "I").before args s = true := hts _ (by decide +kernel)
  have hf27 : (Cond.fieldLink RX2 27 "StakeWeirs$Weir" "eels" "I").before args s = true := hts _ (by decide +kernel)
  have hf30 : (Cond.fieldLink RX2 30 "StakeWeirs$Weir" "open" "Z").before args s = true := hts _ (by decide +kernel)
  have hf34 : (Cond.fieldLink RX2 34 "StakeWeirs$Weir" "owed" "I").before args s = true := hts _ (by decide +kernel)
  refine lv_aload_n hx hb dX2_makeNew_0 rfl (lv_at hl 0 rfl) ?_
  refine lv_iload_n hx hb dX2_makeNew_1 rfl (lv_at hl 1 rfl) ?_
  refine va_put (D := D) (ci := 2) (v := .int p0) (ty := .int) (C := RX2) (T := TX2) (N := 8) hx hb hts hinX2 tyX2 tyX2_ok nmX2 hown hK hP hD hS (0) rfl rfl 0 (by decide) hf9 (fun _ h9 => h9) rfl (by decide +kernel) rfl rfl (Nat.le_of_ble_eq_true rfl) dX2_makeNew_2 (fun H locs hP hD hS => ?_)
  have hP : va_P D vwCl ([(h, .inr (2, qF (up2 q 0 k p0) k))]) H := by rw [← qF_0]; exact hP
  have hD : va_D A ([(h, .inr (2, qF (up2 q 0 k p0) k))]) := by rw [← qF_0]; exact hD
  refine lv_aload_n hx hb dX2_makeNew_5 rfl (lv_at hl 0 rfl) ?_
  refine lv_iload_n hx hb dX2_makeNew_6 rfl (lv_at hl 2 rfl) ?_
  refine va_put (D := D) (ci := 2) (v := .int p1) (ty := .int) (C := RX2) (T := TX2) (N := 8) hx hb hts hinX2 tyX2 tyX2_ok nmX2 hown hK hP hD hS (0) rfl rfl 1 (by decide) hf15 (fun _ h9 => h9) rfl (by decide +kernel) rfl rfl (Nat.le_of_ble_eq_true rfl) dX2_makeNew_7 (fun H locs hP hD hS => ?_)
  have hP : va_P D vwCl ([(h, .inr (2, qF (up2 (up2 q 0 k p0) 1 k p1) k))]) H := by rw [← qF_1]; exact hP
  have hD : va_D A ([(h, .inr (2, qF (up2 (up2 q 0 k p0) 1 k p1) k))]) := by rw [← qF_1]; exact hD
  refine lv_aload_n hx hb dX2_makeNew_10 rfl (lv_at hl 0 rfl) ?_
  refine lv_bipush (v := 100) hx hb dX2_makeNew_11 (by decide) ?_
  refine va_put (D := D) (ci := 2) (v := .int 100) (ty := .int) (C := RX2) (T := TX2) (N := 8) hx hb hts hinX2 tyX2 tyX2_ok nmX2 hown hK hP hD hS (0) rfl rfl 2 (by decide) hf18 (fun _ h9 => h9) rfl (by decide +kernel) rfl rfl (Nat.le_of_ble_eq_true rfl) dX2_makeNew_13 (fun H locs hP hD hS => ?_)
  have hP : va_P D vwCl ([(h, .inr (2, qF (up2 (up2 (up2 q 0 k p0) 1 k p1) 2 k 100) k))]) H := by rw [← qF_2]; exact hP
  have hD : va_D A ([(h, .inr (2, qF (up2 (up2 (up2 q 0 k p0) 1 k p1) 2 k 100) k))]) := by rw [← qF_2]; exact hD
  refine lv_aload_n hx hb dX2_makeNew_16 rfl (lv_at hl 0 rfl) ?_
  refine lv_iload_n hx hb dX2_makeNew_17 rfl (lv_at hl 3 rfl) ?_
  refine va_put (D := D) (ci := 2) (v := .int p2) (ty := .int) (C := RX2) (T := TX2) (N := 8) hx hb hts hinX2 tyX2 tyX2_ok nmX2 hown hK hP hD hS (0) rfl rfl 3 (by decide) hf21 (fun _ h9 => h9) rfl (by decide +kernel) rfl rfl (Nat.le_of_ble_eq_true rfl) dX2_makeNew_18 (fun H locs hP hD hS => ?_)
  have hP : va_P D vwCl ([(h, .inr (2, qF (up2 (up2 (up2 (up2 q 0 k p0) 1 k p1) 2 k 100) 3 k p2) k))]) H := by rw [← qF_3]; exact hP
  have hD : va_D A ([(h, .inr (2, qF (up2 (up2 (up2 (up2 q 0 k p0) 1 k p1) 2 k 100) 3 k p2) k))]) := by rw [← qF_3]; exact hD
  refine lv_aload_n hx hb dX2_makeNew_21 rfl (lv_at hl 0 rfl) ?_
  refine lv_bipush (v := 20) hx hb dX2_makeNew_22 (by decide) ?_
  refine va_put (D := D) (ci := 2) (v := .int 20) (ty := .int) (C := RX2) (T := TX2) (N := 8) hx hb hts hinX2 tyX2 tyX2_ok nmX2 hown hK hP hD hS (0) rfl rfl 4 (by decide) hf24 (fun _ h9 => h9) rfl (by decide +kernel) rfl rfl (Nat.le_of_ble_eq_true rfl) dX2_makeNew_24 (fun H locs hP hD hS => ?_)
  have hP : va_P D vwCl ([(h, .inr (2, qF (up2 (up2 (up2 (up2 (up2 q 0 k p0) 1 k p1) 2 k 100) 3 k p2) 4 k 20) k))]) H := by rw [← qF_4]; exact hP
  have hD : va_D A ([(h, .inr (2, qF (up2 (up2 (up2 (up2 (up2 q 0 k p0) 1 k p1) 2 k 100) 3 k p2) 4 k 20) k))]) := by rw [← qF_4]; exact hD
  refine lv_aload_n hx hb dX2_makeNew_27 rfl (lv_at hl 0 rfl) ?_
  refine lv_iconst (v := 0) hx hb dX2_makeNew_28 (by decide) ?_
  refine va_put (D := D) (ci := 2) (v := .int 0) (ty := .int) (C := RX2) (T := TX2) (N := 8) hx hb hts hinX2 tyX2 tyX2_ok nmX2 hown hK hP hD hS (0) rfl rfl 5 (by decide) hf27 (fun _ h9 => h9) rfl (by decide +kernel) rfl rfl (Nat.le_of_ble_eq_true rfl) dX2_makeNew_29 (fun H locs hP hD hS => ?_)
  have hP : va_P D vwCl ([(h, .inr (2, qF (up2 (up2 (up2 (up2 (up2 (up2 q 0 k p0) 1 k p1) 2 k 100) 3 k p2) 4 k 20) 5 k 0) k))]) H := by rw [← qF_5]; exact hP
  have hD : va_D A ([(h, .inr (2, qF (up2 (up2 (up2 (up2 (up2 (up2 q 0 k p0) 1 k p1) 2 k 100) 3 k p2) 4 k 20) 5 k 0) k))]) := by rw [← qF_5]; exact hD
  refine lv_aload_n hx hb dX2_makeNew_32 rfl (lv_at hl 0 rfl) ?_
  refine lv_iconst (v := 0) hx hb dX2_makeNew_33 (by decide) ?_
  refine va_put (D := D) (ci := 2) (v := .int 0) (ty := .boolean) (C := RX2) (T := TX2) (N := 8) hx hb hts hinX2 tyX2 tyX2_ok nmX2 hown hK hP hD hS (0) rfl rfl 6 (by decide) hf30 (fun _ h9 => h9) rfl (by decide +kernel) (zb_nar (Or.inl rfl)) (zb_fit (Or.inl rfl)) (Nat.le_of_ble_eq_true rfl) dX2_makeNew_34 (fun H locs hP hD hS => ?_)
  have hP : va_P D vwCl ([(h, .inr (2, qF (up2 (up2 (up2 (up2 (up2 (up2 (up2 q 0 k p0) 1 k p1) 2 k 100) 3 k p2) 4 k 20) 5 k 0) 6 k 0) k))]) H := by rw [← qF_6]; exact hP
  have hD : va_D A ([(h, .inr (2, qF (up2 (up2 (up2 (up2 (up2 (up2 (up2 q 0 k p0) 1 k p1) 2 k 100) 3 k p2) 4 k 20) 5 k 0) 6 k 0) k))]) := by rw [← qF_6]; exact hD
  refine lv_aload_n hx hb dX2_makeNew_37 rfl (lv_at hl 0 rfl) ?_
  refine lv_iconst (v := 0) hx hb dX2_makeNew_38 (by decide) ?_
  refine va_put (D := D) (ci := 2) (v := .int 0) (ty := .int) (C := RX2) (T := TX2) (N := 8) hx hb hts hinX2 tyX2 tyX2_ok nmX2 hown hK hP hD hS (0) rfl rfl 7 (by decide) hf34 (fun _ h9 => h9) rfl (by decide +kernel) rfl rfl (Nat.le_of_ble_eq_true rfl) dX2_makeNew_39 (fun H locs hP hD hS => ?_)
  have hP : va_P D vwCl ([(h, .inr (2, qF (up2 (up2 (up2 (up2 (up2 (up2 (up2 (up2 q 0 k p0) 1 k p1) 2 k 100) 3 k p2) 4 k 20) 5 k 0) 6 k 0) 7 k 0) k))]) H := by rw [← qF_7]; exact hP
  have hD : va_D A ([(h, .inr (2, qF (up2 (up2 (up2 (up2 (up2 (up2 (up2 (up2 q 0 k p0) 1 k p1) 2 k 100) 3 k p2) 4 k 20) 5 k 0) 6 k 0) 7 k 0) k))]) := by rw [← qF_7]; exact hD
  exact zM_v hx hb hr hlocks hS dX2_makeNew_42 rfl hP
set_option maxHeartbeats 4000000 in
set_option maxRecDepth 100000 in
theorem c_X2_copyFrom (l : Launch) (D : va_G) (y : Nat → ClassId) (h h2 : Nat) (q q2 : Fld) (k k2 : Nat) (h01 : q2 6 k2 = 0 ∨ q2 6 k2 = 1)  (sz : Nat) : zM l yX2_copyFrom wsX2_copyFrom { frames := 0, cells := 0, slots := 0, locals := 0 } D y [.ref h, .ref h2] ([(h, .inr (2, qF q k)), (h2, .inr (2, qF q2 k2))]) sz (none) ([(h, .inr (2, qF (cpF q k q2 k2) k)), (h2, .inr (2, qF q2 k2))]) 0 0 := by
  refine zM.of (cc := cX2_copyFrom) (maxL := 2) (ret := none) (own := RX2) (by decide) rfl (Nat.le_of_ble_eq_true rfl) rfl ?_
  intro p e s m args below meth cd ls A hx hb hr hml hown hts hlocks hP hK hD hA hS hl hin
  have hS0 := hS
  have hl : lv_has ls 2 [(0, .ref h), (1, .ref h2)] := hl
  have hf9 : (Cond.fieldLink RX2 9 "StakeWeirs$Weir" "place" "I").before args s = true := hts _ (by decide +kernel)
  have hinX2 : ∀ w ∈ wsX20, w ∈ wsX2_copyFrom := by decide +kernel
  have hf15 : (Cond.fieldLink RX2 15 "StakeWeirs$Weir" "stakes" "I").before args s = true := hts _ (by decide +kernel)
  have hf18 : (Cond.fieldLink RX2 18 "StakeWeirs$Weir" "wattle" "I").before args s = true := hts _ (by decide +kernel)
  have hf21 : (Cond.fieldLink RX2 21 "StakeWeirs$Weir" "rent" "I").before args s = true := hts _ (by decide +kernel)
  have hf24 : (Cond.fieldLink RX2 24 "StakeWeirs$Weir" "coins" "I").before args s = true := hts _ (by decide +kernel)
  have hf27 : (Cond.fieldLink RX2 27 "StakeWeirs$Weir" "eels" "I").before args s = true := hts _ (by decide +kernel)
  have hf30 : (Cond.fieldLink RX2 30 "StakeWeirs$Weir" "open" "Z").before args s = true := hts _ (by decide +kernel)
  have hf34 : (Cond.fieldLink RX2 34 "StakeWeirs$Weir" "owed" "I").before args s = true := hts _ (by decide +kernel)
  refine lv_aload_n hx hb dX2_copyFrom_0 rfl (lv_at hl 0 rfl) ?_
  refine lv_aload_n hx hb dX2_copyFrom_1 rfl (lv_at hl 1 rfl) ?_
  refine va_get (D := D) (ci := 2) (v := .int ((q2 0 k2))) (C := RX2) (T := TX2) (N := 8) hx hb hts hinX2 hown hK hP (1) rfl rfl 0 (by decide) hf9 (fun _ h9 => h9) rfl dX2_copyFrom_2 ?_
  refine va_put (D := D) (ci := 2) (v := .int ((q2 0 k2))) (ty := .int) (C := RX2) (T := TX2) (N := 8) hx hb hts hinX2 tyX2 tyX2_ok nmX2 hown hK hP hD hS (0) rfl rfl 0 (by decide) hf9 (fun _ h9 => h9) rfl (by decide +kernel) rfl rfl (Nat.le_of_ble_eq_true rfl) dX2_copyFrom_5 (fun H locs hP hD hS => ?_)
  have hP : va_P D vwCl ([(h, .inr (2, qF (up2 q 0 k (q2 0 k2)) k)), (h2, .inr (2, qF q2 k2))]) H := by rw [← qF_0]; exact hP
  have hD : va_D A ([(h, .inr (2, qF (up2 q 0 k (q2 0 k2)) k)), (h2, .inr (2, qF q2 k2))]) := by rw [← qF_0]; exact hD
  refine lv_aload_n hx hb dX2_copyFrom_8 rfl (lv_at hl 0 rfl) ?_
  refine lv_aload_n hx hb dX2_copyFrom_9 rfl (lv_at hl 1 rfl) ?_
  refine va_get (D := D) (ci := 2) (v := .int ((q2 1 k2))) (C := RX2) (T := TX2) (N := 8) hx hb hts hinX2 hown hK hP (1) rfl rfl 1 (by decide) hf15 (fun _ h9 => h9) rfl dX2_copyFrom_10 ?_
  refine va_put (D := D) (ci := 2) (v := .int ((q2 1 k2))) (ty := .int) (C := RX2) (T := TX2) (N := 8) hx hb hts hinX2 tyX2 tyX2_ok nmX2 hown hK hP hD hS (0) rfl rfl 1 (by decide) hf15 (fun _ h9 => h9) rfl (by decide +kernel) rfl rfl (Nat.le_of_ble_eq_true rfl) dX2_copyFrom_13 (fun H locs hP hD hS => ?_)
  have hP : va_P D vwCl ([(h, .inr (2, qF (up2 (up2 q 0 k (q2 0 k2)) 1 k (q2 1 k2)) k)), (h2, .inr (2, qF q2 k2))]) H := by rw [← qF_1]; exact hP
  have hD : va_D A ([(h, .inr (2, qF (up2 (up2 q 0 k (q2 0 k2)) 1 k (q2 1 k2)) k)), (h2, .inr (2, qF q2 k2))]) := by rw [← qF_1]; exact hD
  refine lv_aload_n hx hb dX2_copyFrom_16 rfl (lv_at hl 0 rfl) ?_
  refine lv_aload_n hx hb dX2_copyFrom_17 rfl (lv_at hl 1 rfl) ?_
  refine va_get (D := D) (ci := 2) (v := .int ((q2 2 k2))) (C := RX2) (T := TX2) (N := 8) hx hb hts hinX2 hown hK hP (1) rfl rfl 2 (by decide) hf18 (fun _ h9 => h9) rfl dX2_copyFrom_18 ?_
  refine va_put (D := D) (ci := 2) (v := .int ((q2 2 k2))) (ty := .int) (C := RX2) (T := TX2) (N := 8) hx hb hts hinX2 tyX2 tyX2_ok nmX2 hown hK hP hD hS (0) rfl rfl 2 (by decide) hf18 (fun _ h9 => h9) rfl (by decide +kernel) rfl rfl (Nat.le_of_ble_eq_true rfl) dX2_copyFrom_21 (fun H locs hP hD hS => ?_)
  have hP : va_P D vwCl ([(h, .inr (2, qF (up2 (up2 (up2 q 0 k (q2 0 k2)) 1 k (q2 1 k2)) 2 k (q2 2 k2)) k)), (h2, .inr (2, qF q2 k2))]) H := by rw [← qF_2]; exact hP
  have hD : va_D A ([(h, .inr (2, qF (up2 (up2 (up2 q 0 k (q2 0 k2)) 1 k (q2 1 k2)) 2 k (q2 2 k2)) k)), (h2, .inr (2, qF q2 k2))]) := by rw [← qF_2]; exact hD
  refine lv_aload_n hx hb dX2_copyFrom_24 rfl (lv_at hl 0 rfl) ?_
  refine lv_aload_n hx hb dX2_copyFrom_25 rfl (lv_at hl 1 rfl) ?_
  refine va_get (D := D) (ci := 2) (v := .int ((q2 3 k2))) (C := RX2) (T := TX2) (N := 8) hx hb hts hinX2 hown hK hP (1) rfl rfl 3 (by decide) hf21 (fun _ h9 => h9) rfl dX2_copyFrom_26 ?_
  refine va_put (D := D) (ci := 2) (v := .int ((q2 3 k2))) (ty := .int) (C := RX2) (T := TX2) (N := 8) hx hb hts hinX2 tyX2 tyX2_ok nmX2 hown hK hP hD hS (0) rfl rfl 3 (by decide) hf21 (fun _ h9 => h9) rfl (by decide +kernel) rfl rfl (Nat.le_of_ble_eq_true rfl) dX2_copyFrom_29 (fun H locs hP hD hS => ?_)
  have hP : va_P D vwCl ([(h, .inr (2, qF (up2 (up2 (up2 (up2 q 0 k (q2 0 k2)) 1 k (q2 1 k2)) 2 k (q2 2 k2)) 3 k (q2 3 k2)) k)), (h2, .inr (2, qF q2 k2))]) H := by rw [← qF_3]; exact hP
  have hD : va_D A ([(h, .inr (2, qF (up2 (up2 (up2 (up2 q 0 k (q2 0 k2)) 1 k (q2 1 k2)) 2 k (q2 2 k2)) 3 k (q2 3 k2)) k)), (h2, .inr (2, qF q2 k2))]) := by rw [← qF_3]; exact hD
  refine lv_aload_n hx hb dX2_copyFrom_32 rfl (lv_at hl 0 rfl) ?_
  refine lv_aload_n hx hb dX2_copyFrom_33 rfl (lv_at hl 1 rfl) ?_
  refine va_get (D := D) (ci := 2) (v := .int ((q2 4 k2))) (C := RX2) (T := TX2) (N := 8) hx hb hts hinX2 hown hK hP (1) rfl rfl 4 (by decide) hf24 (fun _ h9 => h9) rfl dX2_copyFrom_34 ?_
  refine va_put (D := D) (ci := 2) (v := .int ((q2 4 k2))) (ty := .int) (C := RX2) (T := TX2) (N := 8) hx hb hts hinX2 tyX2 tyX2_ok nmX2 hown hK hP hD hS (0) rfl rfl 4 (by decide) hf24 (fun _ h9 => h9) rfl (by decide +kernel) rfl rfl (Nat.le_of_ble_eq_true rfl) dX2_copyFrom_37 (fun H locs hP hD hS => ?_)
  have hP : va_P D vwCl ([(h, .inr (2, qF (up2 (up2 (up2 (up2 (up2 q 0 k (q2 0 k2)) 1 k (q2 1 k2)) 2 k (q2 2 k2)) 3 k (q2 3 k2)) 4 k (q2 4 k2)) k)), (h2, .inr (2, qF q2 k2))]) H := by rw [← qF_4]; exact hP
  have hD : va_D A ([(h, .inr (2, qF (up2 (up2 (up2 (up2 (up2 q 0 k (q2 0 k2)) 1 k (q2 1 k2)) 2 k (q2 2 k2)) 3 k (q2 3 k2)) 4 k (q2 4 k2)) k)), (h2, .inr (2, qF q2 k2))]) := by rw [← qF_4]; exact hD
  refine lv_aload_n hx hb dX2_copyFrom_40 rfl (lv_at hl 0 rfl) ?_
  refine lv_aload_n hx hb dX2_copyFrom_41 rfl (lv_at hl 1 rfl) ?_
  refine va_get (D := D) (ci := 2) (v := .int ((q2 5 k2))) (C := RX2) (T := TX2) (N := 8) hx hb hts hinX2 hown hK hP (1) rfl rfl 5 (by decide) hf27 (fun _ h9 => h9) rfl dX2_copyFrom_42 ?_
  refine va_put (D := D) (ci := 2) (v := .int ((q2 5 k2))) (ty := .int) (C := RX2) (T := TX2) (N := 8) hx hb hts hinX2 tyX2 tyX2_ok nmX2 hown hK hP hD hS (0) rfl rfl 5 (by decide) hf27 (fun _ h9 => h9) rfl (by decide +kernel) rfl rfl (Nat.le_of_ble_eq_true rfl) dX2_copyFrom_45 (fun H locs hP hD hS => ?_)
  have hP : va_P D vwCl ([(h, .inr (2, qF (up2 (up2 (up2 (up2 (up2 (up2 q 0 k (q2 0 k2)) 1 k (q2 1 k2)) 2 k (q2 2 k2)) 3 k (q2 3 k2)) 4 k (q2 4 k2)) 5 k (q2 5 k2)) k)), (h2, .inr (2, qF q2 k2))]) H := by rw [← qF_5]; exact hP
  have hD : va_D A ([(h, .inr (2, qF (up2 (up2 (up2 (up2 (up2 (up2 q 0 k (q2 0 k2)) 1 k (q2 1 k2)) 2 k (q2 2 k2)) 3 k (q2 3 k2)) 4 k (q2 4 k2)) 5 k (q2 5 k2)) k)), (h2, .inr (2, qF q2 k2))]) := by rw [← qF_5]; exact hD
  refine lv_aload_n hx hb dX2_copyFrom_48 rfl (lv_at hl 0 rfl) ?_
  refine lv_aload_n hx hb dX2_copyFrom_49 rfl (lv_at hl 1 rfl) ?_
  refine va_get (D := D) (ci := 2) (v := .int ((q2 6 k2))) (C := RX2) (T := TX2) (N := 8) hx hb hts hinX2 hown hK hP (1) rfl rfl 6 (by decide) hf30 (fun _ h9 => h9) rfl dX2_copyFrom_50 ?_
  refine va_put (D := D) (ci := 2) (v := .int ((q2 6 k2))) (ty := .boolean) (C := RX2) (T := TX2) (N := 8) hx hb hts hinX2 tyX2 tyX2_ok nmX2 hown hK hP hD hS (0) rfl rfl 6 (by decide) hf30 (fun _ h9 => h9) rfl (by decide +kernel) (zb_nar h01) (zb_fit h01) (Nat.le_of_ble_eq_true rfl) dX2_copyFrom_53 (fun H locs hP hD hS => ?_)
  have hP : va_P D vwCl ([(h, .inr (2, qF (up2 (up2 (up2 (up2 (up2 (up2 (up2 q 0 k (q2 0 k2)) 1 k (q2 1 k2)) 2 k (q2 2 k2)) 3 k (q2 3 k2)) 4 k (q2 4 k2)) 5 k (q2 5 k2)) 6 k (q2 6 k2)) k)), (h2, .inr (2, qF q2 k2))]) H := by rw [← qF_6]; exact hP
  have hD : va_D A ([(h, .inr (2, qF (up2 (up2 (up2 (up2 (up2 (up2 (up2 q 0 k (q2 0 k2)) 1 k (q2 1 k2)) 2 k (q2 2 k2)) 3 k (q2 3 k2)) 4 k (q2 4 k2)) 5 k (q2 5 k2)) 6 k (q2 6 k2)) k)), (h2, .inr (2, qF q2 k2))]) := by rw [← qF_6]; exact hD
  refine lv_aload_n hx hb dX2_copyFrom_56 rfl (lv_at hl 0 rfl) ?_
  refine lv_aload_n hx hb dX2_copyFrom_57 rfl (lv_at hl 1 rfl) ?_
  refine va_get (D := D) (ci := 2) (v := .int ((q2 7 k2))) (C := RX2) (T := TX2) (N := 8) hx hb hts hinX2 hown hK hP (1) rfl rfl 7 (by decide) hf34 (fun _ h9 => h9) rfl dX2_copyFrom_58 ?_
  refine va_put (D := D) (ci := 2) (v := .int ((q2 7 k2))) (ty := .int) (C := RX2) (T := TX2) (N := 8) hx hb hts hinX2 tyX2 tyX2_ok nmX2 hown hK hP hD hS (0) rfl rfl 7 (by decide) hf34 (fun _ h9 => h9) rfl (by decide +kernel) rfl rfl (Nat.le_of_ble_eq_true rfl) dX2_copyFrom_61 (fun H locs hP hD hS => ?_)
  have hP : va_P D vwCl ([(h, .inr (2, qF (up2 (up2 (up2 (up2 (up2 (up2 (up2 (up2 q 0 k (q2 0 k2)) 1 k (q2 1 k2)) 2 k (q2 2 k2)) 3 k (q2 3 k2)) 4 k (q2 4 k2)) 5 k (q2 5 k2)) 6 k (q2 6 k2)) 7 k (q2 7 k2)) k)), (h2, .inr (2, qF q2 k2))]) H := by rw [← qF_7]; exact hP
  have hD : va_D A ([(h, .inr (2, qF (up2 (up2 (up2 (up2 (up2 (up2 (up2 (up2 q 0 k (q2 0 k2)) 1 k (q2 1 k2)) 2 k (q2 2 k2)) 3 k (q2 3 k2)) 4 k (q2 4 k2)) 5 k (q2 5 k2)) 6 k (q2 6 k2)) 7 k (q2 7 k2)) k)), (h2, .inr (2, qF q2 k2))]) := by rw [← qF_7]; exact hD
  exact zM_v hx hb hr hlocks hS dX2_copyFrom_64 rfl (by rw [show qF (cpF q k q2 k2) k = qF ((up2 (up2 (up2 (up2 (up2 (up2 (up2 (up2 q 0 k (q2 0 k2)) 1 k (q2 1 k2)) 2 k (q2 2 k2)) 3 k (q2 3 k2)) 4 k (q2 4 k2)) 5 k (q2 5 k2)) 6 k (q2 6 k2)) 7 k (q2 7 k2))) k from by simp [qF, cpF, up2, upd]]; exact hP)
end
section
theorem dX0_init_0 : decode cX0_init 0 = .ok (.aload_n 0, 1) := by decide +kernel
theorem dX0_init_1 : decode cX0_init 1 = .ok (.invokespecial 3, 3) := by decide +kernel
theorem dX0_init_4 : decode cX0_init 4 = .ok (.return_, 1) := by decide +kernel
theorem dX0_makeNew_0 : decode cX0_makeNew 0 = .ok (.aload_n 0, 1) := by decide +kernel
theorem dX0_makeNew_1 : decode cX0_makeNew 1 = .ok (.iload_n 1, 1) := by decide +kernel
theorem dX0_makeNew_2 : decode cX0_makeNew 2 = .ok (.putfield 9, 3) := by decide +kernel
theorem dX0_makeNew_5 : decode cX0_makeNew 5 = .ok (.aload_n 0, 1) := by decide +kernel
theorem dX0_makeNew_6 : decode cX0_makeNew 6 = .ok (.iload_n 2, 1) := by decide +kernel
theorem dX0_makeNew_7 : decode cX0_makeNew 7 = .ok (.putfield 15, 3) := by decide +kernel
theorem dX0_makeNew_10 : decode cX0_makeNew 10 = .ok (.aload_n 0, 1) := by decide +kernel
theorem dX0_makeNew_11 : decode cX0_makeNew 11 = .ok (.iconst (-1), 1) := by decide +kernel
theorem dX0_makeNew_12 : decode cX0_makeNew 12 = .ok (.putfield 18, 3) := by decide +kernel
theorem dX0_makeNew_15 : decode cX0_makeNew 15 = .ok (.aload_n 0, 1) := by decide +kernel
theorem dX0_makeNew_16 : decode cX0_makeNew 16 = .ok (.iconst 0, 1) := by decide +kernel
theorem dX0_makeNew_17 : decode cX0_makeNew 17 = .ok (.putfield 21, 3) := by decide +kernel
theorem dX0_makeNew_20 : decode cX0_makeNew 20 = .ok (.return_, 1) := by decide +kernel
theorem dX0_copyFrom_0 : decode cX0_copyFrom 0 = .ok (.aload_n 0, 1) := by decide +kernel
theorem dX0_copyFrom_1 : decode cX0_copyFrom 1 = .ok (.aload_n 1, 1) := by decide +kernel
theorem dX0_copyFrom_2 : decode cX0_copyFrom 2 = .ok (.getfield 9, 3) := by decide +kernel
theorem dX0_copyFrom_5 : decode cX0_copyFrom 5 = .ok (.putfield 9, 3) := by decide +kernel
theorem dX0_copyFrom_8 : decode cX0_copyFrom 8 = .ok (.aload_n 0, 1) := by decide +kernel
theorem dX0_copyFrom_9 : decode cX0_copyFrom 9 = .ok (.aload_n 1, 1) := by decide +kernel
theorem dX0_copyFrom_10 : decode cX0_copyFrom 10 = .ok (.getfield 15, 3) := by decide +kernel
theorem dX0_copyFrom_13 : decode cX0_copyFrom 13 = .ok (.putfield 15, 3) := by decide +kernel
theorem dX0_copyFrom_16 : decode cX0_copyFrom 16 = .ok (.aload_n 0, 1) := by decide +kernel
theorem dX0_copyFrom_17 : decode cX0_copyFrom 17 = .ok (.aload_n 1, 1) := by decide +kernel
theorem dX0_copyFrom_18 : decode cX0_copyFrom 18 = .ok (.getfield 18, 3) := by decide +kernel
theorem dX0_copyFrom_21 : decode cX0_copyFrom 21 = .ok (.putfield 18, 3) := by decide +kernel
theorem dX0_copyFrom_24 : decode cX0_copyFrom 24 = .ok (.aload_n 0, 1) := by decide +kernel
theorem dX0_copyFrom_25 : decode cX0_copyFrom 25 = .ok (.aload_n 1, 1) := by decide +kernel
theorem dX0_copyFrom_26 : decode cX0_copyFrom 26 = .ok (.getfield 21, 3) := by decide +kernel
theorem dX0_copyFrom_29 : decode cX0_copyFrom 29 = .ok (.putfield 21, 3) := by decide +kernel
theorem dX0_copyFrom_32 : decode cX0_copyFrom 32 = .ok (.return_, 1) := by decide +kernel
theorem dX0_goOn_0 : decode cX0_goOn 0 = .ok (.aload_n 0, 1) := by decide +kernel
theorem dX0_goOn_1 : decode cX0_goOn 1 = .ok (.aload_n 0, 1) := by decide +kernel
theorem dX0_goOn_2 : decode cX0_goOn 2 = .ok (.getfield 18, 3) := by decide +kernel
theorem dX0_goOn_5 : decode cX0_goOn 5 = .ok (.iconst 5, 1) := by decide +kernel
theorem dX0_goOn_6 : decode cX0_goOn 6 = .ok (.iadd, 1) := by decide +kernel
theorem dX0_goOn_7 : decode cX0_goOn 7 = .ok (.iload_n 1, 1) := by decide +kernel
theorem dX0_goOn_8 : decode cX0_goOn 8 = .ok (.invokestatic 24, 3) := by decide +kernel
theorem dX0_goOn_11 : decode cX0_goOn 11 = .ok (.putfield 18, 3) := by decide +kernel
theorem dX0_goOn_14 : decode cX0_goOn 14 = .ok (.return_, 1) := by decide +kernel
end
section
set_option maxHeartbeats 4000000 in
set_option maxRecDepth 100000 in
theorem c_X0_makeNew (l : Launch) (D : va_G) (y : Nat → ClassId) (h : Nat) (b : Fld) (k : Nat) (p0 p1 : Int32)  (sz : Nat) : zM l yX0_makeNew wsX0_makeNew { frames := 0, cells := 0, slots := 0, locals := 0 } D y [.ref h, .int p0, .int p1] ([(h, .inr (0, bF b k))]) sz (none) ([(h, .inr (0, bF (newB b k p0 p1) k))]) 0 0 := by
  refine zM.of (cc := cX0_makeNew) (maxL := 3) (ret := none) (own := RX0) (by decide) rfl (Nat.le_of_ble_eq_true rfl) rfl ?_
  intro p e s m args below meth cd ls A hx hb hr hml hown hts hlocks hP hK hD hA hS hl hin
  have hS0 := hS
  have hl : lv_has ls 3 [(0, .ref h), (1, .int p0), (2, .int p1)] := hl
  have hf9 : (Cond.fieldLink RX0 9 "StakeWeirs$Barge" "ticket" "I").before args s = true := hts _ (by decide +kernel)
  have hinX0 : ∀ w ∈ wsX00, w ∈ wsX0_makeNew := by decide +kernel
  have hf15 : (Cond.fieldLink RX0 15 "StakeWeirs$Barge" "wide" "I").before args s = true := hts _ (by decide +kernel)
  have hf18 : (Cond.fieldLink RX0 18 "StakeWeirs$Barge" "place" "I").before args s = true := hts _ (by decide +kernel)
  have hf21 : (Cond.fieldLink RX0 21 "StakeWeirs$Barge" "broken" "I").before args s = true := hts _ (by decide +kernel)
  refine lv_aload_n hx hb dX0_makeNew_0 rfl (lv_at hl 0 rfl) ?_
  refine lv_iload_n hx hb dX0_makeNew_1 rfl (lv_at hl 1 rfl) ?_
  refine va_put (D := D) (ci := 0) (v := .int p0) (ty := .int) (C := RX0) (T := TX0) (N := 4) hx hb hts hinX0 tyX0 tyX0_ok nmX0 hown hK hP hD hS (0) rfl rfl 0 (by decide) hf9 (fun _ h9 => h9) rfl (by decide +kernel) rfl rfl (Nat.le_of_ble_eq_true rfl) dX0_makeNew_2 (fun H locs hP hD hS => ?_)
  have hP : va_P D vwCl ([(h, .inr (0, bF (up2 b 0 k p0) k))]) H := by rw [← bF_0]; exact hP
  have hD : va_D A ([(h, .inr (0, bF (up2 b 0 k p0) k))]) := by rw [← bF_0]; exact hD
  refine lv_aload_n hx hb dX0_makeNew_5 rfl (lv_at hl 0 rfl) ?_
  refine lv_iload_n hx hb dX0_makeNew_6 rfl (lv_at hl 2 rfl) ?_
  refine va_put (D := D) (ci := 0) (v := .int p1) (ty := .int) (C := RX0) (T := TX0) (N := 4) hx hb hts hinX0 tyX0 tyX0_ok nmX0 hown hK hP hD hS (0) rfl rfl 1 (by decide) hf15 (fun _ h9 => h9) rfl (by decide +kernel) rfl rfl (Nat.le_of_ble_eq_true rfl) dX0_makeNew_7 (fun H locs hP hD hS => ?_)
  have hP : va_P D vwCl ([(h, .inr (0, bF (up2 (up2 b 0 k p0) 1 k p1) k))]) H := by rw [← bF_1]; exact hP
  have hD : va_D A ([(h, .inr (0, bF (up2 (up2 b 0 k p0) 1 k p1) k))]) := by rw [← bF_1]; exact hD
  refine lv_aload_n hx hb dX0_makeNew_10 rfl (lv_at hl 0 rfl) ?_
  refine lv_iconst (v := (-1)) hx hb dX0_makeNew_11 (by decide) ?_
  refine va_put (D := D) (ci := 0) (v := .int (-1)) (ty := .int) (C := RX0) (T := TX0) (N := 4) hx hb hts hinX0 tyX0 tyX0_ok nmX0 hown hK hP hD hS (0) rfl rfl 2 (by decide) hf18 (fun _ h9 => h9) rfl (by decide +kernel) rfl rfl (Nat.le_of_ble_eq_true rfl) dX0_makeNew_12 (fun H locs hP hD hS => ?_)
  have hP : va_P D vwCl ([(h, .inr (0, bF (up2 (up2 (up2 b 0 k p0) 1 k p1) 2 k (-1)) k))]) H := by rw [← bF_2]; exact hP
  have hD : va_D A ([(h, .inr (0, bF (up2 (up2 (up2 b 0 k p0) 1 k p1) 2 k (-1)) k))]) := by rw [← bF_2]; exact hD
  refine lv_aload_n hx hb dX0_makeNew_15 rfl (lv_at hl 0 rfl) ?_
  refine lv_iconst (v := 0) hx hb dX0_makeNew_16 (by decide) ?_
  refine va_put (D := D) (ci := 0) (v := .int 0) (ty := .int) (C := RX0) (T := TX0) (N := 4) hx hb hts hinX0 tyX0 tyX0_ok nmX0 hown hK hP hD hS (0) rfl rfl 3 (by decide) hf21 (fun _ h9 => h9) rfl (by decide +kernel) rfl rfl (Nat.le_of_ble_eq_true rfl) dX0_makeNew_17 (fun H locs hP hD hS => ?_)
  have hP : va_P D vwCl ([(h, .inr (0, bF (up2 (up2 (up2 (up2 b 0 k p0) 1 k p1) 2 k (-1)) 3 k 0) k))]) H := by rw [← bF_3]; exact hP
  have hD : va_D A ([(h, .inr (0, bF (up2 (up2 (up2 (up2 b 0 k p0) 1 k p1) 2 k (-1)) 3 k 0) k))]) := by rw [← bF_3]; exact hD
  exact zM_v hx hb hr hlocks hS dX0_makeNew_20 rfl hP
set_option maxHeartbeats 4000000 in
set_option maxRecDepth 100000 in
theorem c_X0_goOn (l : Launch) (D : va_G) (y : Nat → ClassId) (h : Nat) (b : Fld) (k : Nat) (x : Int32)  (sz : Nat) : zM l yX0_goOn wsX0_goOn { frames := 1, cells := 0, slots := 0, locals := 21 } D y [.ref h, .int x] ([(h, .inr (0, bF b k))]) sz (none) ([(h, .inr (0, bF (goB b k x) k))]) 0 0 := by
  refine zM.of (cc := cX0_goOn) (maxL := 2) (ret := none) (own := RX0) (by decide) rfl (Nat.le_of_ble_eq_true rfl) rfl ?_
  intro p e s m args below meth cd ls A hx hb hr hml hown hts hlocks hP hK hD hA hS hl hin
  have hS0 := hS
  have hl : lv_has ls 2 [(0, .ref h), (1, .int x)] := hl
  have hf18 : (Cond.fieldLink RX0 18 "StakeWeirs$Barge" "place" "I").before args s = true := hts _ (by decide +kernel)
  have hinX0 : ∀ w ∈ wsX00, w ∈ wsX0_goOn := by decide +kernel
  have hlmin24 : (Cond.methodLink RX0 24 Lib.Math.min.name).before args s = true := hts _ (by decide +kernel)
  have hstmin : (Cond.static Lib.Math.min.name).before args s = true := hts _ (by decide +kernel)
  have hiM : (Cond.initialized "java/lang/Math").before args s = true := hts _ (by decide +kernel)
  have hcmin : (Cond.code Lib.Math.min.name Lib.Math.min.code 2 (some .int)).before args s = true := hts _ (by decide +kernel)
  refine lv_aload_n hx hb dX0_goOn_0 rfl (lv_at hl 0 rfl) ?_
  refine lv_aload_n hx hb dX0_goOn_1 rfl (lv_at hl 0 rfl) ?_
  refine va_get (D := D) (ci := 0) (v := .int ((b 2 k))) (C := RX0) (T := TX0) (N := 4) hx hb hts hinX0 hown hK hP (0) rfl rfl 2 (by decide) hf18 (fun _ h9 => h9) rfl dX0_goOn_2 ?_
  refine lv_iconst (v := 5) hx hb dX0_goOn_5 (by decide) ?_
  refine lv_iadd hx hb dX0_goOn_6 ?_
  refine lv_iload_n hx hb dX0_goOn_7 rfl (lv_at hl 1 rfl) ?_
  refine va_mmin hx hb (hml.trans hl.1.symm) hown hlmin24 hstmin hiM hcmin (Nat.le_of_ble_eq_true rfl) (Nat.le_of_ble_eq_true rfl) (Nat.le_of_ble_eq_true rfl) (Nat.le_of_ble_eq_true rfl) dX0_goOn_8 ?_
  refine va_put (D := D) (ci := 0) (v := .int ((minI (((b 2 k) + 5)) x))) (ty := .int) (C := RX0) (T := TX0) (N := 4) hx hb hts hinX0 tyX0 tyX0_ok nmX0 hown hK hP hD hS (0) rfl rfl 2 (by decide) hf18 (fun _ h9 => h9) rfl (by decide +kernel) rfl rfl (Nat.le_of_ble_eq_true rfl) dX0_goOn_11 (fun H locs hP hD hS => ?_)
  have hP : va_P D vwCl ([(h, .inr (0, bF (up2 b 2 k (minI (((b 2 k) + 5)) x)) k))]) H := by rw [← bF_2]; exact hP
  have hD : va_D A ([(h, .inr (0, bF (up2 b 2 k (minI (((b 2 k) + 5)) x)) k))]) := by rw [← bF_2]; exact hD
  exact zM_v hx hb hr hlocks hS dX0_goOn_14 rfl hP
set_option maxHeartbeats 4000000 in
set_option maxRecDepth 100000 in
theorem c_X0_copyFrom (l : Launch) (D : va_G) (y : Nat → ClassId) (h h2 : Nat) (b b2 : Fld) (k k2 : Nat)  (sz : Nat) : zM l yX0_copyFrom wsX0_copyFrom { frames := 0, cells := 0, slots := 0, locals := 0 } D y [.ref h, .ref h2] ([(h, .inr (0, bF b k)), (h2, .inr (0, bF b2 k2))]) sz (none) ([(h, .inr (0, bF (cpF b k b2 k2) k)), (h2, .inr (0, bF b2 k2))]) 0 0 := by
  refine zM.of (cc := cX0_copyFrom) (maxL := 2) (ret := none) (own := RX0) (by decide) rfl (Nat.le_of_ble_eq_true rfl) rfl ?_
  intro p e s m args below meth cd ls A hx hb hr hml hown hts hlocks hP hK hD hA hS hl hin
  have hS0 := hS
  have hl : lv_has ls 2 [(0, .ref h), (1, .ref h2)] := hl
  have hf9 : (Cond.fieldLink RX0 9 "StakeWeirs$Barge" "ticket" "I").before args s = true := hts _ (by decide +kernel)
  have hinX0 : ∀ w ∈ wsX00, w ∈ wsX0_copyFrom := by decide +kernel
  have hf15 : (Cond.fieldLink RX0 15 "StakeWeirs$Barge" "wide" "I").before args s = true := hts _ (by decide +kernel)
  have hf18 : (Cond.fieldLink RX0 18 "StakeWeirs$Barge" "place" "I").before args s = true := hts _ (by decide +kernel)
  have hf21 : (Cond.fieldLink RX0 21 "StakeWeirs$Barge" "broken" "I").before args s = true := hts _ (by decide +kernel)
  refine lv_aload_n hx hb dX0_copyFrom_0 rfl (lv_at hl 0 rfl) ?_
  refine lv_aload_n hx hb dX0_copyFrom_1 rfl (lv_at hl 1 rfl) ?_
  refine va_get (D := D) (ci := 0) (v := .int ((b2 0 k2))) (C := RX0) (T := TX0) (N := 4) hx hb hts hinX0 hown hK hP (1) rfl rfl 0 (by decide) hf9 (fun _ h9 => h9) rfl dX0_copyFrom_2 ?_
  refine va_put (D := D) (ci := 0) (v := .int ((b2 0 k2))) (ty := .int) (C := RX0) (T := TX0) (N := 4) hx hb hts hinX0 tyX0 tyX0_ok nmX0 hown hK hP hD hS (0) rfl rfl 0 (by decide) hf9 (fun _ h9 => h9) rfl (by decide +kernel) rfl rfl (Nat.le_of_ble_eq_true rfl) dX0_copyFrom_5 (fun H locs hP hD hS => ?_)
  have hP : va_P D vwCl ([(h, .inr (0, bF (up2 b 0 k (b2 0 k2)) k)), (h2, .inr (0, bF b2 k2))]) H := by rw [← bF_0]; exact hP
  have hD : va_D A ([(h, .inr (0, bF (up2 b 0 k (b2 0 k2)) k)), (h2, .inr (0, bF b2 k2))]) := by rw [← bF_0]; exact hD
  refine lv_aload_n hx hb dX0_copyFrom_8 rfl (lv_at hl 0 rfl) ?_
  refine lv_aload_n hx hb dX0_copyFrom_9 rfl (lv_at hl 1 rfl) ?_
  refine va_get (D := D) (ci := 0) (v := .int ((b2 1 k2))) (C := RX0) (T := TX0) (N := 4) hx hb hts hinX0 hown hK hP (1) rfl rfl 1 (by decide) hf15 (fun _ h9 => h9) rfl dX0_copyFrom_10 ?_
  refine va_put (D := D) (ci := 0) (v := .int ((b2 1 k2))) (ty := .int) (C := RX0) (T := TX0) (N := 4) hx hb hts hinX0 tyX0 tyX0_ok nmX0 hown hK hP hD hS (0) rfl rfl 1 (by decide) hf15 (fun _ h9 => h9) rfl (by decide +kernel) rfl rfl (Nat.le_of_ble_eq_true rfl) dX0_copyFrom_13 (fun H locs hP hD hS => ?_)
  have hP : va_P D vwCl ([(h, .inr (0, bF (up2 (up2 b 0 k (b2 0 k2)) 1 k (b2 1 k2)) k)), (h2, .inr (0, bF b2 k2))]) H := by rw [← bF_1]; exact hP
  have hD : va_D A ([(h, .inr (0, bF (up2 (up2 b 0 k (b2 0 k2)) 1 k (b2 1 k2)) k)), (h2, .inr (0, bF b2 k2))]) := by rw [← bF_1]; exact hD
  refine lv_aload_n hx hb dX0_copyFrom_16 rfl (lv_at hl 0 rfl) ?_
  refine lv_aload_n hx hb dX0_copyFrom_17 rfl (lv_at hl 1 rfl) ?_
  refine va_get (D := D) (ci := 0) (v := .int ((b2 2 k2))) (C := RX0) (T := TX0) (N := 4) hx hb hts hinX0 hown hK hP (1) rfl rfl 2 (by decide) hf18 (fun _ h9 => h9) rfl dX0_copyFrom_18 ?_
  refine va_put (D := D) (ci := 0) (v := .int ((b2 2 k2))) (ty := .int) (C := RX0) (T := TX0) (N := 4) hx hb hts hinX0 tyX0 tyX0_ok nmX0 hown hK hP hD hS (0) rfl rfl 2 (by decide) hf18 (fun _ h9 => h9) rfl (by decide +kernel) rfl rfl (Nat.le_of_ble_eq_true rfl) dX0_copyFrom_21 (fun H locs hP hD hS => ?_)
  have hP : va_P D vwCl ([(h, .inr (0, bF (up2 (up2 (up2 b 0 k (b2 0 k2)) 1 k (b2 1 k2)) 2 k (b2 2 k2)) k)), (h2, .inr (0, bF b2 k2))]) H := by rw [← bF_2]; exact hP
  have hD : va_D A ([(h, .inr (0, bF (up2 (up2 (up2 b 0 k (b2 0 k2)) 1 k (b2 1 k2)) 2 k (b2 2 k2)) k)), (h2, .inr (0, bF b2 k2))]) := by rw [← bF_2]; exact hD
  refine lv_aload_n hx hb dX0_copyFrom_24 rfl (lv_at hl 0 rfl) ?_
  refine lv_aload_n hx hb dX0_copyFrom_25 rfl (lv_at hl 1 rfl) ?_
  refine va_get (D := D) (ci := 0) (v := .int ((b2 3 k2))) (C := RX0) (T := TX0) (N := 4) hx hb hts hinX0 hown hK hP (1) rfl rfl 3 (by decide) hf21 (fun _ h9 => h9) rfl dX0_copyFrom_26 ?_
  refine va_put (D := D) (ci := 0) (v := .int ((b2 3 k2))) (ty := .int) (C := RX0) (T := TX0) (N := 4) hx hb hts hinX0 tyX0 tyX0_ok nmX0 hown hK hP hD hS (0) rfl rfl 3 (by decide) hf21 (fun _ h9 => h9) rfl (by decide +kernel) rfl rfl (Nat.le_of_ble_eq_true rfl) dX0_copyFrom_29 (fun H locs hP hD hS => ?_)
  have hP : va_P D vwCl ([(h, .inr (0, bF (up2 (up2 (up2 (up2 b 0 k (b2 0 k2)) 1 k (b2 1 k2)) 2 k (b2 2 k2)) 3 k (b2 3 k2)) k)), (h2, .inr (0, bF b2 k2))]) H := by rw [← bF_3]; exact hP
  have hD : va_D A ([(h, .inr (0, bF (up2 (up2 (up2 (up2 b 0 k (b2 0 k2)) 1 k (b2 1 k2)) 2 k (b2 2 k2)) 3 k (b2 3 k2)) k)), (h2, .inr (0, bF b2 k2))]) := by rw [← bF_3]; exact hD
  exact zM_v hx hb hr hlocks hS dX0_copyFrom_32 rfl (by rw [show bF (cpF b k b2 k2) k = bF ((up2 (up2 (up2 (up2 b 0 k (b2 0 k2)) 1 k (b2 1 k2)) 2 k (b2 2 k2)) 3 k (b2 3 k2))) k from by simp [bF, cpF, up2, upd]]; exact hP)
set_option maxHeartbeats 4000000 in
set_option maxRecDepth 100000 in
theorem c_X0_copyFrom_self (l : Launch) (D : va_G) (y : Nat → ClassId) (h : Nat) (b : Fld) (k : Nat)  (sz : Nat) : zM l yX0_copyFrom wsX0_copyFrom { frames := 0, cells := 0, slots := 0, locals := 0 } D y [.ref h, .ref h] ([(h, .inr (0, bF b k))]) sz (none) ([(h, .inr (0, bF b k))]) 0 0 := by
  refine zM.of (cc := cX0_copyFrom) (maxL := 2) (ret := none) (own := RX0) (by decide) rfl (Nat.le_of_ble_eq_true rfl) rfl ?_
  intro p e s m args below meth cd ls A hx hb hr hml hown hts hlocks hP hK hD hA hS hl hin
  have hS0 := hS
  have hl : lv_has ls 2 [(0, .ref h), (1, .ref h)] := hl
  have hf9 : (Cond.fieldLink RX0 9 "StakeWeirs$Barge" "ticket" "I").before args s = true := hts _ (by decide +kernel)
  have hinX0 : ∀ w ∈ wsX00, w ∈ wsX0_copyFrom := by decide +kernel
  have hf15 : (Cond.fieldLink RX0 15 "StakeWeirs$Barge" "wide" "I").before args s = true := hts _ (by decide +kernel)
  have hf18 : (Cond.fieldLink RX0 18 "StakeWeirs$Barge" "place" "I").before args s = true := hts _ (by decide +kernel)
  have hf21 : (Cond.fieldLink RX0 21 "StakeWeirs$Barge" "broken" "I").before args s = true := hts _ (by decide +kernel)
  refine lv_aload_n hx hb dX0_copyFrom_0 rfl (lv_at hl 0 rfl) ?_
  refine lv_aload_n hx hb dX0_copyFrom_1 rfl (lv_at hl 1 rfl) ?_
  refine va_get (D := D) (ci := 0) (v := .int ((b 0 k))) (C := RX0) (T := TX0) (N := 4) hx hb hts hinX0 hown hK hP (0) rfl rfl 0 (by decide) hf9 (fun _ h9 => h9) rfl dX0_copyFrom_2 ?_
  refine va_put (D := D) (ci := 0) (v := .int ((b 0 k))) (ty := .int) (C := RX0) (T := TX0) (N := 4) hx hb hts hinX0 tyX0 tyX0_ok nmX0 hown hK hP hD hS (0) rfl rfl 0 (by decide) hf9 (fun _ h9 => h9) rfl (by decide +kernel) rfl rfl (Nat.le_of_ble_eq_true rfl) dX0_copyFrom_5 (fun H locs hP hD hS => ?_)
  have hP : va_P D vwCl ([(h, .inr (0, bF (up2 b 0 k (b 0 k)) k))]) H := by rw [← bF_0]; exact hP
  have hD : va_D A ([(h, .inr (0, bF (up2 b 0 k (b 0 k)) k))]) := by rw [← bF_0]; exact hD
  refine lv_aload_n hx hb dX0_copyFrom_8 rfl (lv_at hl 0 rfl) ?_
  refine lv_aload_n hx hb dX0_copyFrom_9 rfl (lv_at hl 1 rfl) ?_
  refine va_get (D := D) (ci := 0) (v := .int ((b 1 k))) (C := RX0) (T := TX0) (N := 4) hx hb hts hinX0 hown hK hP (0) rfl rfl 1 (by decide) hf15 (fun _ h9 => h9) rfl dX0_copyFrom_10 ?_
  refine va_put (D := D) (ci := 0) (v := .int ((b 1 k))) (ty := .int) (C := RX0) (T := TX0) (N := 4) hx hb hts hinX0 tyX0 tyX0_ok nmX0 hown hK hP hD hS (0) rfl rfl 1 (by decide) hf15 (fun _ h9 => h9) rfl (by decide +kernel) rfl rfl (Nat.le_of_ble_eq_true rfl) dX0_copyFrom_13 (fun H locs hP hD hS => ?_)
  have hP : va_P D vwCl ([(h, .inr (0, bF (up2 (up2 b 0 k (b 0 k)) 1 k (b 1 k)) k))]) H := by rw [← bF_1]; exact hP
  have hD : va_D A ([(h, .inr (0, bF (up2 (up2 b 0 k (b 0 k)) 1 k (b 1 k)) k))]) := by rw [← bF_1]; exact hD
  refine lv_aload_n hx hb dX0_copyFrom_16 rfl (lv_at hl 0 rfl) ?_
  refine lv_aload_n hx hb dX0_copyFrom_17 rfl (lv_at hl 1 rfl) ?_
  refine va_get (D := D) (ci := 0) (v := .int ((b 2 k))) (C := RX0) (T := TX0) (N := 4) hx hb hts hinX0 hown hK hP (0) rfl rfl 2 (by decide) hf18 (fun _ h9 => h9) rfl dX0_copyFrom_18 ?_
  refine va_put (D := D) (ci := 0) (v := .int ((b 2 k))) (ty := .int) (C := RX0) (T := TX0) (N := 4) hx hb hts hinX0 tyX0 tyX0_ok nmX0 hown hK hP hD hS (0) rfl rfl 2 (by decide) hf18 (fun _ h9 => h9) rfl (by decide +kernel) rfl rfl (Nat.le_of_ble_eq_true rfl) dX0_copyFrom_21 (fun H locs hP hD hS => ?_)
  have hP : va_P D vwCl ([(h, .inr (0, bF (up2 (up2 (up2 b 0 k (b 0 k)) 1 k (b 1 k)) 2 k (b 2 k)) k))]) H := by rw [← bF_2]; exact hP
  have hD : va_D A ([(h, .inr (0, bF (up2 (up2 (up2 b 0 k (b 0 k)) 1 k (b 1 k)) 2 k (b 2 k)) k))]) := by rw [← bF_2]; exact hD
  refine lv_aload_n hx hb dX0_copyFrom_24 rfl (lv_at hl 0 rfl) ?_
  refine lv_aload_n hx hb dX0_copyFrom_25 rfl (lv_at hl 1 rfl) ?_
  refine va_get (D := D) (ci := 0) (v := .int ((b 3 k))) (C := RX0) (T := TX0) (N := 4) hx hb hts hinX0 hown hK hP (0) rfl rfl 3 (by decide) hf21 (fun _ h9 => h9) rfl dX0_copyFrom_26 ?_
  refine va_put (D := D) (ci := 0) (v := .int ((b 3 k))) (ty := .int) (C := RX0) (T := TX0) (N := 4) hx hb hts hinX0 tyX0 tyX0_ok nmX0 hown hK hP hD hS (0) rfl rfl 3 (by decide) hf21 (fun _ h9 => h9) rfl (by decide +kernel) rfl rfl (Nat.le_of_ble_eq_true rfl) dX0_copyFrom_29 (fun H locs hP hD hS => ?_)
  have hP : va_P D vwCl ([(h, .inr (0, bF (up2 (up2 (up2 (up2 b 0 k (b 0 k)) 1 k (b 1 k)) 2 k (b 2 k)) 3 k (b 3 k)) k))]) H := by rw [← bF_3]; exact hP
  have hD : va_D A ([(h, .inr (0, bF (up2 (up2 (up2 (up2 b 0 k (b 0 k)) 1 k (b 1 k)) 2 k (b 2 k)) 3 k (b 3 k)) k))]) := by rw [← bF_3]; exact hD
  exact zM_v hx hb hr hlocks hS dX0_copyFrom_32 rfl (by rw [show bF b k = bF ((up2 (up2 (up2 (up2 b 0 k (b 0 k)) 1 k (b 1 k)) 2 k (b 2 k)) 3 k (b 3 k))) k from by simp [bF, up2, upd]]; exact hP)
end
section
theorem dJ9_floorMod_7cf53_0 : decode cJ9_floorMod_7cf53 0 = .ok (.iload_n 0, 1) := by decide +kernel
theorem dJ9_floorMod_7cf53_1 : decode cJ9_floorMod_7cf53 1 = .ok (.iload_n 1, 1) := by decide +kernel
theorem dJ9_floorMod_7cf53_2 : decode cJ9_floorMod_7cf53 2 = .ok (.irem, 1) := by decide +kernel
theorem dJ9_floorMod_7cf53_3 : decode cJ9_floorMod_7cf53 3 = .ok (.istore_n 2, 1) := by decide +kernel
theorem dJ9_floorMod_7cf53_4 : decode cJ9_floorMod_7cf53 4 = .ok (.iload_n 0, 1) := by decide +kernel
theorem dJ9_floorMod_7cf53_5 : decode cJ9_floorMod_7cf53 5 = .ok (.iload_n 1, 1) := by decide +kernel
theorem dJ9_floorMod_7cf53_6 : decode cJ9_floorMod_7cf53 6 = .ok (.ixor, 1) := by decide +kernel
theorem dJ9_floorMod_7cf53_7 : decode cJ9_floorMod_7cf53 7 = .ok (.ifCond .ge 11, 3) := by decide +kernel
theorem dJ9_floorMod_7cf53_10 : decode cJ9_floorMod_7cf53 10 = .ok (.iload_n 2, 1) := by decide +kernel
theorem dJ9_floorMod_7cf53_11 : decode cJ9_floorMod_7cf53 11 = .ok (.ifCond .eq 7, 3) := by decide +kernel
theorem dJ9_floorMod_7cf53_14 : decode cJ9_floorMod_7cf53 14 = .ok (.iload_n 2, 1) := by decide +kernel
theorem dJ9_floorMod_7cf53_15 : decode cJ9_floorMod_7cf53 15 = .ok (.iload_n 1, 1) := by decide +kernel
theorem dJ9_floorMod_7cf53_16 : decode cJ9_floorMod_7cf53 16 = .ok (.iadd, 1) := by decide +kernel
theorem dJ9_floorMod_7cf53_17 : decode cJ9_floorMod_7cf53 17 = .ok (.ireturn, 1) := by decide +kernel
theorem dJ9_floorMod_7cf53_18 : decode cJ9_floorMod_7cf53 18 = .ok (.iload_n 2, 1) := by decide +kernel
theorem dJ9_floorMod_7cf53_19 : decode cJ9_floorMod_7cf53 19 = .ok (.ireturn, 1) := by decide +kernel
theorem dJ9_max_7cf53_0 : decode cJ9_max_7cf53 0 = .ok (.iload_n 0, 1) := by decide +kernel
theorem dJ9_max_7cf53_1 : decode cJ9_max_7cf53 1 = .ok (.iload_n 1, 1) := by decide +kernel
theorem dJ9_max_7cf53_2 : decode cJ9_max_7cf53 2 = .ok (.if_icmp .lt 7, 3) := by decide +kernel
theorem dJ9_max_7cf53_5 : decode cJ9_max_7cf53 5 = .ok (.iload_n 0, 1) := by decide +kernel
theorem dJ9_max_7cf53_6 : decode cJ9_max_7cf53 6 = .ok (.goto 4, 3) := by decide +kernel
theorem dJ9_max_7cf53_9 : decode cJ9_max_7cf53 9 = .ok (.iload_n 1, 1) := by decide +kernel
theorem dJ9_max_7cf53_10 : decode cJ9_max_7cf53 10 = .ok (.ireturn, 1) := by decide +kernel
theorem dJ9_min_7cf53_0 : decode cJ9_min_7cf53 0 = .ok (.iload_n 0, 1) := by decide +kernel
theorem dJ9_min_7cf53_1 : decode cJ9_min_7cf53 1 = .ok (.iload_n 1, 1) := by decide +kernel
theorem dJ9_min_7cf53_2 : decode cJ9_min_7cf53 2 = .ok (.if_icmp .gt 7, 3) := by decide +kernel
theorem dJ9_min_7cf53_5 : decode cJ9_min_7cf53 5 = .ok (.iload_n 0, 1) := by decide +kernel
theorem dJ9_min_7cf53_6 : decode cJ9_min_7cf53 6 = .ok (.goto 4, 3) := by decide +kernel
theorem dJ9_min_7cf53_9 : decode cJ9_min_7cf53 9 = .ok (.iload_n 1, 1) := by decide +kernel
theorem dJ9_min_7cf53_10 : decode cJ9_min_7cf53 10 = .ok (.ireturn, 1) := by decide +kernel
end
section
set_option maxRecDepth 20000 in
theorem ggX1_init_X2_init : GoodIn wsX1_init wsX2_init := goodIn_r _ [16, 17, 2, 3] (by decide +kernel) (by decide +kernel)
set_option maxRecDepth 20000 in
theorem gX1_init_X2_init_n24 : GoodIn wsX1_init (wsX2_init) := ggX1_init_X2_init
set_option maxRecDepth 20000 in
theorem ggX1_init_X0_init : GoodIn wsX1_init wsX0_init := goodIn_r _ [19, 20, 2, 3] (by decide +kernel) (by decide +kernel)
set_option maxRecDepth 20000 in
theorem gX1_init_X0_init_n31 : GoodIn wsX1_init (wsX0_init) := ggX1_init_X0_init
set_option maxRecDepth 20000 in
theorem ggX1_copyFrom_X1_tableEels : GoodIn wsX1_copyFrom wsX1_tableEels := goodIn_r _ [13, 1, 56, 57, 58, 59, 60, 61, 62, 63, 64, 65] (by decide +kernel) (by decide +kernel)
set_option maxRecDepth 20000 in
theorem gX1_copyFrom_X1_tableEels : GoodIn wsX1_copyFrom (wsV RX1 32 RX1 yX1_tableEels wsX1_tableEels) := goodIn_app (goodIn_of _ (by decide +kernel)) ggX1_copyFrom_X1_tableEels
set_option maxRecDepth 20000 in
theorem ggX1_copyFrom_X1_inOrder : GoodIn wsX1_copyFrom wsX1_inOrder := goodIn_r _ [17, 2, 56, 57, 58, 59, 60, 61, 62, 63, 64, 65] (by decide +kernel) (by decide +kernel)
set_option maxRecDepth 20000 in
theorem gX1_copyFrom_X1_inOrder : GoodIn wsX1_copyFrom (wsV RX1 36 RX1 yX1_inOrder wsX1_inOrder) := goodIn_app (goodIn_of _ (by decide +kernel)) ggX1_copyFrom_X1_inOrder
set_option maxRecDepth 20000 in
theorem ggX1_copyFrom_X1_weirAt : GoodIn wsX1_copyFrom wsX1_weirAt := goodIn_r _ [21, 3, 22, 56, 57, 58, 59, 60, 61, 62, 63, 64, 65] (by decide +kernel) (by decide +kernel)
set_option maxRecDepth 20000 in
theorem gX1_copyFrom_X1_weirAt : GoodIn wsX1_copyFrom (wsV RX1 43 RX1 yX1_weirAt wsX1_weirAt) := goodIn_app (goodIn_of _ (by decide +kernel)) ggX1_copyFrom_X1_weirAt
set_option maxRecDepth 20000 in
theorem ggX1_copyFrom_X1_copyWeir : GoodIn wsX1_copyFrom wsX1_copyWeir := goodIn_r _ [25, 26, 27, 28, 29, 30, 31, 32, 33, 34, 35, 36, 37, 38, 66, 67, 68, 69, 70, 71, 72, 73] (by decide +kernel) (by decide +kernel)
set_option maxRecDepth 20000 in
theorem gX1_copyFrom_X1_copyWeir : GoodIn wsX1_copyFrom (va_wsS RX1 47 yX1_copyWeir wsX1_copyWeir) := goodIn_app (goodIn_of _ (by decide +kernel)) ggX1_copyFrom_X1_copyWeir
set_option maxRecDepth 20000 in
theorem ggX1_copyFrom_X1_bargeAt : GoodIn wsX1_copyFrom wsX1_bargeAt := goodIn_r _ [42, 4, 43, 56, 57, 58, 59, 60, 61, 62, 63, 64, 65] (by decide +kernel) (by decide +kernel)
set_option maxRecDepth 20000 in
theorem gX1_copyFrom_X1_bargeAt : GoodIn wsX1_copyFrom (wsV RX1 54 RX1 yX1_bargeAt wsX1_bargeAt) := goodIn_app (goodIn_of _ (by decide +kernel)) ggX1_copyFrom_X1_bargeAt
set_option maxRecDepth 20000 in
theorem ggX1_copyFrom_X1_copyBarge : GoodIn wsX1_copyFrom wsX1_copyBarge := goodIn_r _ [46, 47, 48, 49, 50, 51, 52, 53, 54, 55, 74, 75, 76, 77] (by decide +kernel) (by decide +kernel)
set_option maxRecDepth 20000 in
theorem gX1_copyFrom_X1_copyBarge : GoodIn wsX1_copyFrom (va_wsS RX1 58 yX1_copyBarge wsX1_copyBarge) := goodIn_app (goodIn_of _ (by decide +kernel)) ggX1_copyFrom_X1_copyBarge
set_option maxRecDepth 20000 in
theorem ggX1_copyWeir_X2_copyFrom : GoodIn wsX1_copyWeir wsX2_copyFrom := goodIn_r _ [5, 6, 7, 8, 9, 10, 11, 12, 13, 14, 15, 16, 17, 18, 19, 20, 21] (by decide +kernel) (by decide +kernel)
set_option maxRecDepth 20000 in
theorem gX1_copyWeir_X2_copyFrom : GoodIn wsX1_copyWeir (wsV RX1 74 RX2 yX2_copyFrom wsX2_copyFrom) := goodIn_app (goodIn_of _ (by decide +kernel)) ggX1_copyWeir_X2_copyFrom
set_option maxRecDepth 20000 in
theorem ggX1_copyBarge_X0_copyFrom : GoodIn wsX1_copyBarge wsX0_copyFrom := goodIn_r _ [5, 6, 7, 8, 9, 10, 11, 12, 13] (by decide +kernel) (by decide +kernel)
set_option maxRecDepth 20000 in
theorem gX1_copyBarge_X0_copyFrom : GoodIn wsX1_copyBarge (wsV RX1 78 RX0 yX0_copyFrom wsX0_copyFrom) := goodIn_app (goodIn_of _ (by decide +kernel)) ggX1_copyBarge_X0_copyFrom
set_option maxRecDepth 20000 in
theorem ggX1_addWeir_X1_putInOrder : GoodIn wsX1_addWeir wsX1_putInOrder := goodIn_r _ [6, 7, 8, 9, 10, 5, 11, 12, 13, 14, 15, 16, 1, 17, 31, 32, 33, 34, 35, 36, 37, 38, 39, 40, 41, 42, 43, 44, 45, 46, 47, 48] (by decide +kernel) (by decide +kernel)
set_option maxRecDepth 20000 in
theorem gX1_addWeir_X1_putInOrder : GoodIn wsX1_addWeir (wsV RX1 81 RX1 yX1_putInOrder wsX1_putInOrder) := goodIn_app (goodIn_of _ (by decide +kernel)) ggX1_addWeir_X1_putInOrder
set_option maxRecDepth 20000 in
theorem ggX1_addWeir_X1_weirAt : GoodIn wsX1_addWeir wsX1_weirAt := goodIn_r _ [16, 1, 17, 31, 32, 33, 34, 35, 36, 37, 38, 39, 40] (by decide +kernel) (by decide +kernel)
set_option maxRecDepth 20000 in
theorem gX1_addWeir_X1_weirAt : GoodIn wsX1_addWeir (wsV RX1 43 RX1 yX1_weirAt wsX1_weirAt) := goodIn_app (goodIn_of _ (by decide +kernel)) ggX1_addWeir_X1_weirAt
set_option maxRecDepth 20000 in
theorem ggX1_addWeir_X2_makeNew : GoodIn wsX1_addWeir wsX2_makeNew := goodIn_r _ [22, 23, 24, 25, 26, 27, 28, 29, 30, 41, 42, 43, 44, 45, 46, 47, 48] (by decide +kernel) (by decide +kernel)
set_option maxRecDepth 20000 in
theorem gX1_addWeir_X2_makeNew : GoodIn wsX1_addWeir (wsV RX1 85 RX2 yX2_makeNew wsX2_makeNew) := goodIn_app (goodIn_of _ (by decide +kernel)) ggX1_addWeir_X2_makeNew
set_option maxRecDepth 20000 in
theorem ggX1_putInOrder_X1_isSeawardsOf : GoodIn wsX1_putInOrder wsX1_isSeawardsOf := goodIn_r _ [6, 7, 8, 9, 10, 5, 11, 12, 13, 24, 25, 26, 27, 28, 29, 30, 31, 14, 15, 16, 17, 18, 19, 20, 21, 22, 23] (by decide +kernel) (by decide +kernel)
set_option maxRecDepth 20000 in
theorem gX1_putInOrder_X1_isSeawardsOf : GoodIn wsX1_putInOrder (wsV RX1 89 RX1 yX1_isSeawardsOf wsX1_isSeawardsOf) := goodIn_app (goodIn_of _ (by decide +kernel)) ggX1_putInOrder_X1_isSeawardsOf
set_option maxRecDepth 20000 in
theorem ggX1_isSeawardsOf_X1_weirAt : GoodIn wsX1_isSeawardsOf wsX1_weirAt := goodIn_r _ [6, 7, 8, 17, 18, 19, 20, 21, 22, 23, 24, 25, 26] (by decide +kernel) (by decide +kernel)
set_option maxRecDepth 20000 in
theorem gX1_isSeawardsOf_X1_weirAt : GoodIn wsX1_isSeawardsOf (wsV RX1 43 RX1 yX1_weirAt wsX1_weirAt) := goodIn_app (goodIn_of _ (by decide +kernel)) ggX1_isSeawardsOf_X1_weirAt
set_option maxRecDepth 20000 in
theorem ggX1_addBarge_X1_bargeAt : GoodIn wsX1_addBarge wsX1_bargeAt := goodIn_r _ [7, 1, 8, 18, 19, 20, 21, 22, 23, 24, 25, 26, 27] (by decide +kernel) (by decide +kernel)
set_option maxRecDepth 20000 in
theorem gX1_addBarge_X1_bargeAt : GoodIn wsX1_addBarge (wsV RX1 54 RX1 yX1_bargeAt wsX1_bargeAt) := goodIn_app (goodIn_of _ (by decide +kernel)) ggX1_addBarge_X1_bargeAt
set_option maxRecDepth 20000 in
theorem ggX1_addBarge_X0_makeNew : GoodIn wsX1_addBarge wsX0_makeNew := goodIn_r _ [13, 14, 15, 16, 17, 28, 29, 30, 31] (by decide +kernel) (by decide +kernel)
set_option maxRecDepth 20000 in
theorem gX1_addBarge_X0_makeNew : GoodIn wsX1_addBarge (wsV RX1 96 RX0 yX0_makeNew wsX0_makeNew) := goodIn_app (goodIn_of _ (by decide +kernel)) ggX1_addBarge_X0_makeNew
set_option maxRecDepth 20000 in
theorem ggX1_isUnderWay_X1_bargeAt : GoodIn wsX1_isUnderWay wsX1_bargeAt := goodIn_r _ [7, 1, 8, 9, 10, 11, 12, 13, 14, 15, 16, 17, 18] (by decide +kernel) (by decide +kernel)
set_option maxRecDepth 20000 in
theorem gX1_isUnderWay_X1_bargeAt : GoodIn wsX1_isUnderWay (wsV RX1 54 RX1 yX1_bargeAt wsX1_bargeAt) := goodIn_app (goodIn_of _ (by decide +kernel)) ggX1_isUnderWay_X1_bargeAt
set_option maxRecDepth 20000 in
theorem ggX1_moon_J9_floorMod_7cf53 : GoodIn wsX1_moon wsJ9_floorMod_7cf53 := goodIn_r _ [5] (by decide +kernel) (by decide +kernel)
set_option maxRecDepth 20000 in
theorem gX1_moon_J9_floorMod_7cf53 : GoodIn wsX1_moon (va_wsS RX1 101 yJ9_floorMod_7cf53 wsJ9_floorMod_7cf53) := goodIn_app (goodIn_of _ (by decide +kernel)) ggX1_moon_J9_floorMod_7cf53
set_option maxRecDepth 20000 in
theorem ggX1_run_J9_floorMod_7cf53 : GoodIn wsX1_run wsJ9_floorMod_7cf53 := goodIn_r _ [5] (by decide +kernel) (by decide +kernel)
set_option maxRecDepth 20000 in
theorem gX1_run_J9_floorMod_7cf53 : GoodIn wsX1_run (va_wsS RX1 101 yJ9_floorMod_7cf53 wsJ9_floorMod_7cf53) := goodIn_app (goodIn_of _ (by decide +kernel)) ggX1_run_J9_floorMod_7cf53
set_option maxRecDepth 20000 in
theorem ggX1_run_X1_tableEels : GoodIn wsX1_run wsX1_tableEels := goodIn_r _ [10, 11, 16, 17, 18, 19, 20, 21, 22, 23, 24, 25] (by decide +kernel) (by decide +kernel)
set_option maxRecDepth 20000 in
theorem gX1_run_X1_tableEels : GoodIn wsX1_run (wsV RX1 32 RX1 yX1_tableEels wsX1_tableEels) := goodIn_app (goodIn_of _ (by decide +kernel)) ggX1_run_X1_tableEels
set_option maxRecDepth 20000 in
theorem ggX1_run_X1_moon : GoodIn wsX1_run wsX1_moon := goodIn_r _ [15, 1, 2, 3, 4, 5, 16, 17, 18, 19, 20, 21, 22, 23, 24, 25] (by decide +kernel) (by decide +kernel)
set_option maxRecDepth 20000 in
theorem gX1_run_X1_moon : GoodIn wsX1_run (wsV RX1 107 RX1 yX1_moon wsX1_moon) := goodIn_app (goodIn_of _ (by decide +kernel)) ggX1_run_X1_moon
set_option maxRecDepth 20000 in
theorem ggX1_fact_X1_moon : GoodIn wsX1_fact wsX1_moon := goodIn_r _ [11, 1, 12, 13, 14, 15, 45, 46, 47, 48, 49, 50, 51, 52, 53, 54] (by decide +kernel) (by decide +kernel)
set_option maxRecDepth 20000 in
theorem gX1_fact_X1_moon : GoodIn wsX1_fact (wsV RX1 107 RX1 yX1_moon wsX1_moon) := goodIn_app (goodIn_of _ (by decide +kernel)) ggX1_fact_X1_moon
set_option maxRecDepth 20000 in
theorem ggX1_fact_X1_run : GoodIn wsX1_fact wsX1_run := goodIn_r _ [19, 1, 12, 13, 14, 15, 20, 21, 22, 10, 23, 24, 7, 8, 9, 11, 45, 46, 47, 48, 49, 50, 51, 52, 53, 54] (by decide +kernel) (by decide +kernel)
set_option maxRecDepth 20000 in
theorem gX1_fact_X1_run : GoodIn wsX1_fact (wsV RX1 111 RX1 yX1_run wsX1_run) := goodIn_app (goodIn_of _ (by decide +kernel)) ggX1_fact_X1_run
set_option maxRecDepth 20000 in
theorem ggX1_fact_X1_heldWeirs : GoodIn wsX1_fact wsX1_heldWeirs := goodIn_r _ [28, 2, 29, 30, 31, 10, 32, 33, 34, 35, 36, 37, 38, 39, 45, 46, 47, 48, 49, 50, 51, 52, 53, 54, 55, 56, 57, 58, 59, 60, 61, 62] (by decide +kernel) (by decide +kernel)
set_option maxRecDepth 20000 in
theorem gX1_fact_X1_heldWeirs : GoodIn wsX1_fact (wsV RX1 114 RX1 yX1_heldWeirs wsX1_heldWeirs) := goodIn_app (goodIn_of _ (by decide +kernel)) ggX1_fact_X1_heldWeirs
set_option maxRecDepth 20000 in
theorem ggX1_fact_X1_allEels : GoodIn wsX1_fact wsX1_allEels := goodIn_r _ [43, 2, 44, 29, 30, 31, 10, 32, 33, 45, 46, 47, 48, 49, 50, 51, 52, 53, 54, 55, 56, 57, 58, 59, 60, 61, 62] (by decide +kernel) (by decide +kernel)
set_option maxRecDepth 20000 in
theorem gX1_fact_X1_allEels : GoodIn wsX1_fact (wsV RX1 117 RX1 yX1_allEels wsX1_allEels) := goodIn_app (goodIn_of _ (by decide +kernel)) ggX1_fact_X1_allEels
set_option maxRecDepth 20000 in
theorem ggX1_bargeFact_X1_nextInWay : GoodIn wsX1_bargeFact wsX1_nextInWay := goodIn_r _ [8, 9, 10, 2, 1, 11, 12, 13, 7, 14, 15, 16, 17, 18, 19, 20, 21, 22, 23, 24, 25, 26, 27, 32, 33, 34, 35, 36, 37, 38, 39, 40, 41, 42, 43, 44, 45, 46, 47, 48, 49, 28, 29, 30, 31] (by decide +kernel) (by decide +kernel)
set_option maxRecDepth 20000 in
theorem gX1_bargeFact_X1_nextInWay : GoodIn wsX1_bargeFact (wsV RX1 127 RX1 yX1_nextInWay wsX1_nextInWay) := goodIn_app (goodIn_of _ (by decide +kernel)) ggX1_bargeFact_X1_nextInWay
set_option maxRecDepth 20000 in
theorem ggX1_heldWeirs_X1_weirAt : GoodIn wsX1_heldWeirs wsX1_weirAt := goodIn_r _ [6, 1, 7, 14, 15, 16, 17, 18, 19, 20, 21, 22, 23] (by decide +kernel) (by decide +kernel)
set_option maxRecDepth 20000 in
theorem gX1_heldWeirs_X1_weirAt : GoodIn wsX1_heldWeirs (wsV RX1 43 RX1 yX1_weirAt wsX1_weirAt) := goodIn_app (goodIn_of _ (by decide +kernel)) ggX1_heldWeirs_X1_weirAt
set_option maxRecDepth 20000 in
theorem ggX1_heldWeirs_X2_isHeld : GoodIn wsX1_heldWeirs wsX2_isHeld := goodIn_r _ [12, 13, 24, 25, 26, 27, 28, 29, 30, 31] (by decide +kernel) (by decide +kernel)
set_option maxRecDepth 20000 in
theorem gX1_heldWeirs_X2_isHeld : GoodIn wsX1_heldWeirs (wsV RX1 131 RX2 yX2_isHeld wsX2_isHeld) := goodIn_app (goodIn_of _ (by decide +kernel)) ggX1_heldWeirs_X2_isHeld
set_option maxRecDepth 20000 in
theorem ggX1_heldWattle_X1_weirAt : GoodIn wsX1_heldWattle wsX1_weirAt := goodIn_r _ [7, 1, 8, 15, 16, 17, 18, 19, 20, 21, 22, 23, 24] (by decide +kernel) (by decide +kernel)
set_option maxRecDepth 20000 in
theorem gX1_heldWattle_X1_weirAt : GoodIn wsX1_heldWattle (wsV RX1 43 RX1 yX1_weirAt wsX1_weirAt) := goodIn_app (goodIn_of _ (by decide +kernel)) ggX1_heldWattle_X1_weirAt
set_option maxRecDepth 20000 in
theorem ggX1_heldWattle_X2_isHeld : GoodIn wsX1_heldWattle wsX2_isHeld := goodIn_r _ [13, 14, 25, 26, 27, 28, 29, 30, 31, 32] (by decide +kernel) (by decide +kernel)
set_option maxRecDepth 20000 in
theorem gX1_heldWattle_X2_isHeld : GoodIn wsX1_heldWattle (wsV RX1 131 RX2 yX2_isHeld wsX2_isHeld) := goodIn_app (goodIn_of _ (by decide +kernel)) ggX1_heldWattle_X2_isHeld
set_option maxRecDepth 20000 in
theorem ggX1_allEels_X1_weirAt : GoodIn wsX1_allEels wsX1_weirAt := goodIn_r _ [7, 1, 8, 9, 10, 11, 12, 13, 14, 15, 16, 17, 18] (by decide +kernel) (by decide +kernel)
set_option maxRecDepth 20000 in
theorem gX1_allEels_X1_weirAt : GoodIn wsX1_allEels (wsV RX1 43 RX1 yX1_weirAt wsX1_weirAt) := goodIn_app (goodIn_of _ (by decide +kernel)) ggX1_allEels_X1_weirAt
set_option maxRecDepth 20000 in
theorem ggX1_weirsInWay_X1_weirAt : GoodIn wsX1_weirsInWay wsX1_weirAt := goodIn_r _ [6, 1, 7, 20, 21, 22, 23, 24, 25, 26, 27, 28, 29] (by decide +kernel) (by decide +kernel)
set_option maxRecDepth 20000 in
theorem gX1_weirsInWay_X1_weirAt : GoodIn wsX1_weirsInWay (wsV RX1 43 RX1 yX1_weirAt wsX1_weirAt) := goodIn_app (goodIn_of _ (by decide +kernel)) ggX1_weirsInWay_X1_weirAt
set_option maxRecDepth 20000 in
theorem ggX1_weirsInWay_X2_isInWay : GoodIn wsX1_weirsInWay wsX2_isInWay := goodIn_r _ [12, 13, 14, 15, 16, 11, 17, 18, 19, 30, 31, 32, 33, 34, 35, 36, 37] (by decide +kernel) (by decide +kernel)
set_option maxRecDepth 20000 in
theorem gX1_weirsInWay_X2_isInWay : GoodIn wsX1_weirsInWay (wsV RX1 141 RX2 yX2_isInWay wsX2_isInWay) := goodIn_app (goodIn_of _ (by decide +kernel)) ggX1_weirsInWay_X2_isInWay
set_option maxRecDepth 20000 in
theorem ggX1_richestHeld_X1_weirAt : GoodIn wsX1_richestHeld wsX1_weirAt := goodIn_r _ [7, 1, 8, 15, 16, 17, 18, 19, 20, 21, 22, 23, 24] (by decide +kernel) (by decide +kernel)
set_option maxRecDepth 20000 in
theorem gX1_richestHeld_X1_weirAt : GoodIn wsX1_richestHeld (wsV RX1 43 RX1 yX1_weirAt wsX1_weirAt) := goodIn_app (goodIn_of _ (by decide +kernel)) ggX1_richestHeld_X1_weirAt
set_option maxRecDepth 20000 in
theorem ggX1_richestHeld_X2_isHeld : GoodIn wsX1_richestHeld wsX2_isHeld := goodIn_r _ [13, 14, 25, 26, 27, 28, 29, 30, 31, 32] (by decide +kernel) (by decide +kernel)
set_option maxRecDepth 20000 in
theorem gX1_richestHeld_X2_isHeld : GoodIn wsX1_richestHeld (wsV RX1 131 RX2 yX2_isHeld wsX2_isHeld) := goodIn_app (goodIn_of _ (by decide +kernel)) ggX1_richestHeld_X2_isHeld
set_option maxRecDepth 20000 in
theorem ggX1_nextInWay_X1_weirAt : GoodIn wsX1_nextInWay wsX1_weirAt := goodIn_r _ [9, 1, 10, 23, 24, 25, 26, 27, 28, 29, 30, 31, 32] (by decide +kernel) (by decide +kernel)
set_option maxRecDepth 20000 in
theorem gX1_nextInWay_X1_weirAt : GoodIn wsX1_nextInWay (wsV RX1 43 RX1 yX1_weirAt wsX1_weirAt) := goodIn_app (goodIn_of _ (by decide +kernel)) ggX1_nextInWay_X1_weirAt
set_option maxRecDepth 20000 in
theorem ggX1_nextInWay_X2_isInWay : GoodIn wsX1_nextInWay wsX2_isInWay := goodIn_r _ [15, 16, 17, 18, 19, 14, 20, 21, 22, 33, 34, 35, 36, 37, 38, 39, 40] (by decide +kernel) (by decide +kernel)
set_option maxRecDepth 20000 in
theorem gX1_nextInWay_X2_isInWay : GoodIn wsX1_nextInWay (wsV RX1 141 RX2 yX2_isInWay wsX2_isInWay) := goodIn_app (goodIn_of _ (by decide +kernel)) ggX1_nextInWay_X2_isInWay
set_option maxRecDepth 20000 in
theorem ggX1_goThroughNights_X1_catchEels : GoodIn wsX1_goThroughNights wsX1_catchEels := goodIn_r _ [6, 7, 8, 9, 10, 5, 11, 1, 12, 13, 14, 15, 16, 17, 18, 19, 20, 21, 22, 23, 24, 25, 26, 27, 28, 29, 30, 31, 32, 33, 34, 35, 36, 37, 38, 39, 40, 41, 42, 43, 44, 45, 46, 47, 48, 49, 50, 51, 52, 131, 132, 133, 134, 135, 136, 137, 138, 139, 140, 141, 142, 143, 144, 145, 146, 147, 148] (by decide +kernel) (by decide +kernel)
set_option maxRecDepth 20000 in
theorem gX1_goThroughNights_X1_catchEels : GoodIn wsX1_goThroughNights (wsV RX1 148 RX1 yX1_catchEels wsX1_catchEels) := goodIn_app (goodIn_of _ (by decide +kernel)) ggX1_goThroughNights_X1_catchEels
set_option maxRecDepth 20000 in
theorem ggX1_goThroughNights_X1_moveBarges : GoodIn wsX1_goThroughNights wsX1_moveBarges := goodIn_r _ [56, 57, 58, 59, 60, 61, 5, 62, 63, 64, 65, 66, 67, 7, 68, 69, 30, 31, 32, 33, 34, 70, 71, 72, 38, 73, 46, 74, 36, 37, 39, 40, 41, 75, 76, 77, 78, 79, 80, 81, 50, 51, 52, 82, 83, 84, 85, 86, 87, 88, 89, 90, 91, 92, 49, 93, 94, 95, 96, 47, 131, 132, 133, 134, 135, 136, 137, 138, 139, 140, 141, 142, 143, 144, 145, 146, 147, 148, 149, 150, 151, 152] (by decide +kernel) (by decide +kernel)
set_option maxRecDepth 20000 in
theorem gX1_goThroughNights_X1_moveBarges : GoodIn wsX1_goThroughNights (wsV RX1 151 RX1 yX1_moveBarges wsX1_moveBarges) := goodIn_app (goodIn_of _ (by decide +kernel)) ggX1_goThroughNights_X1_moveBarges
set_option maxRecDepth 20000 in
theorem ggX1_goThroughNights_X1_leaveOutArrived : GoodIn wsX1_goThroughNights wsX1_leaveOutArrived := goodIn_r _ [100, 57, 68, 101, 59, 60, 61, 5, 62, 63, 102, 103, 104, 105, 106, 107, 78, 108, 109, 110, 80, 111, 131, 132, 133, 134, 135, 136, 137, 138, 139, 140, 149, 150, 151, 152] (by decide +kernel) (by decide +kernel)
set_option maxRecDepth 20000 in
theorem gX1_goThroughNights_X1_leaveOutArrived : GoodIn wsX1_goThroughNights (wsV RX1 154 RX1 yX1_leaveOutArrived wsX1_leaveOutArrived) := goodIn_app (goodIn_of _ (by decide +kernel)) ggX1_goThroughNights_X1_leaveOutArrived
set_option maxRecDepth 20000 in
theorem ggX1_goThroughNights_X1_rotWattle : GoodIn wsX1_goThroughNights wsX1_rotWattle := goodIn_r _ [115, 7, 21, 22, 23, 5, 24, 1, 12, 13, 14, 15, 30, 31, 32, 33, 34, 116, 117, 118, 38, 119, 40, 120, 94, 95, 96, 47, 131, 132, 133, 134, 135, 136, 137, 138, 139, 140, 141, 142, 143, 144, 145, 146, 147, 148] (by decide +kernel) (by decide +kernel)
set_option maxRecDepth 20000 in
theorem gX1_goThroughNights_X1_rotWattle : GoodIn wsX1_goThroughNights (wsV RX1 157 RX1 yX1_rotWattle wsX1_rotWattle) := goodIn_app (goodIn_of _ (by decide +kernel)) ggX1_goThroughNights_X1_rotWattle
set_option maxRecDepth 20000 in
theorem ggX1_goThroughNights_J9_floorMod_7cf53 : GoodIn wsX1_goThroughNights wsJ9_floorMod_7cf53 := goodIn_r _ [15] (by decide +kernel) (by decide +kernel)
set_option maxRecDepth 20000 in
theorem gX1_goThroughNights_J9_floorMod_7cf53 : GoodIn wsX1_goThroughNights (va_wsS RX1 101 yJ9_floorMod_7cf53 wsJ9_floorMod_7cf53) := goodIn_app (goodIn_of _ (by decide +kernel)) ggX1_goThroughNights_J9_floorMod_7cf53
set_option maxRecDepth 20000 in
theorem ggX1_goThroughNights_X1_collectRents : GoodIn wsX1_goThroughNights wsX1_collectRents := goodIn_r _ [124, 7, 125, 30, 31, 32, 5, 33, 34, 116, 117, 118, 38, 119, 40, 126, 127, 128, 129, 92, 130, 48, 131, 132, 133, 134, 135, 136, 137, 138, 139, 140, 141, 142, 143, 144, 145, 146, 147, 148] (by decide +kernel) (by decide +kernel)
set_option maxRecDepth 20000 in
theorem gX1_goThroughNights_X1_collectRents : GoodIn wsX1_goThroughNights (wsV RX1 160 RX1 yX1_collectRents wsX1_collectRents) := goodIn_app (goodIn_of _ (by decide +kernel)) ggX1_goThroughNights_X1_collectRents
set_option maxRecDepth 20000 in
theorem ggX1_catchEels_X1_run : GoodIn wsX1_catchEels wsX1_run := goodIn_r _ [6, 7, 8, 9, 10, 11, 12, 13, 14, 5, 15, 16, 17, 18, 19, 20, 49, 50, 51, 52, 53, 54, 55, 56, 57, 58] (by decide +kernel) (by decide +kernel)
set_option maxRecDepth 20000 in
theorem gX1_catchEels_X1_run : GoodIn wsX1_catchEels (wsV RX1 111 RX1 yX1_run wsX1_run) := goodIn_app (goodIn_of _ (by decide +kernel)) ggX1_catchEels_X1_run
end
section
set_option maxRecDepth 20000 in
theorem ggX1_catchEels_X1_inOrder : GoodIn wsX1_catchEels wsX1_inOrder := goodIn_r _ [24, 25, 49, 50, 51, 52, 53, 54, 55, 56, 57, 58] (by decide +kernel) (by decide +kernel)
set_option maxRecDepth 20000 in
theorem gX1_catchEels_X1_inOrder : GoodIn wsX1_catchEels (wsV RX1 36 RX1 yX1_inOrder wsX1_inOrder) := goodIn_app (goodIn_of _ (by decide +kernel)) ggX1_catchEels_X1_inOrder
set_option maxRecDepth 20000 in
theorem ggX1_catchEels_X1_weirAt : GoodIn wsX1_catchEels wsX1_weirAt := goodIn_r _ [29, 1, 30, 49, 50, 51, 52, 53, 54, 55, 56, 57, 58] (by decide +kernel) (by decide +kernel)
set_option maxRecDepth 20000 in
theorem gX1_catchEels_X1_weirAt : GoodIn wsX1_catchEels (wsV RX1 43 RX1 yX1_weirAt wsX1_weirAt) := goodIn_app (goodIn_of _ (by decide +kernel)) ggX1_catchEels_X1_weirAt
set_option maxRecDepth 20000 in
theorem ggX1_catchEels_X2_isFishing : GoodIn wsX1_catchEels wsX2_isFishing := goodIn_r _ [35, 36, 37, 59, 60, 61, 62, 63, 64, 65, 66] (by decide +kernel) (by decide +kernel)
set_option maxRecDepth 20000 in
theorem gX1_catchEels_X2_isFishing : GoodIn wsX1_catchEels (wsV RX1 163 RX2 yX2_isFishing wsX2_isFishing) := goodIn_app (goodIn_of _ (by decide +kernel)) ggX1_catchEels_X2_isFishing
set_option maxRecDepth 20000 in
theorem ggX1_catchEels_X2_catchOf : GoodIn wsX1_catchEels wsX2_catchOf := goodIn_r _ [41, 42, 43, 44, 45, 46, 47, 48, 59, 60, 61, 62, 63, 64, 65, 66] (by decide +kernel) (by decide +kernel)
set_option maxRecDepth 20000 in
theorem gX1_catchEels_X2_catchOf : GoodIn wsX1_catchEels (wsV RX1 166 RX2 yX2_catchOf wsX2_catchOf) := goodIn_app (goodIn_of _ (by decide +kernel)) ggX1_catchEels_X2_catchOf
set_option maxRecDepth 20000 in
theorem ggX1_moveBarges_X1_bargeAt : GoodIn wsX1_moveBarges wsX1_bargeAt := goodIn_r _ [7, 1, 8, 60, 61, 62, 63, 64, 65, 66, 67, 68, 69] (by decide +kernel) (by decide +kernel)
set_option maxRecDepth 20000 in
theorem gX1_moveBarges_X1_bargeAt : GoodIn wsX1_moveBarges (wsV RX1 54 RX1 yX1_bargeAt wsX1_bargeAt) := goodIn_app (goodIn_of _ (by decide +kernel)) ggX1_moveBarges_X1_bargeAt
set_option maxRecDepth 20000 in
theorem ggX1_moveBarges_X1_nextInWay : GoodIn wsX1_moveBarges wsX1_nextInWay := goodIn_r _ [12, 13, 2, 14, 15, 16, 17, 18, 6, 19, 20, 21, 22, 23, 24, 25, 26, 27, 28, 29, 30, 31, 32, 60, 61, 62, 63, 64, 65, 66, 67, 68, 69, 70, 71, 72, 73, 74, 75, 76, 77, 78, 79, 80, 81] (by decide +kernel) (by decide +kernel)
set_option maxRecDepth 20000 in
theorem gX1_moveBarges_X1_nextInWay : GoodIn wsX1_moveBarges (wsV RX1 127 RX1 yX1_nextInWay wsX1_nextInWay) := goodIn_app (goodIn_of _ (by decide +kernel)) ggX1_moveBarges_X1_nextInWay
set_option maxRecDepth 20000 in
theorem ggX1_moveBarges_X1_weirAt : GoodIn wsX1_moveBarges wsX1_weirAt := goodIn_r _ [19, 13, 20, 60, 61, 62, 63, 64, 65, 66, 67, 68, 69] (by decide +kernel) (by decide +kernel)
set_option maxRecDepth 20000 in
theorem gX1_moveBarges_X1_weirAt : GoodIn wsX1_moveBarges (wsV RX1 43 RX1 yX1_weirAt wsX1_weirAt) := goodIn_app (goodIn_of _ (by decide +kernel)) ggX1_moveBarges_X1_weirAt
set_option maxRecDepth 20000 in
theorem ggX1_moveBarges_X0_goOn : GoodIn wsX1_moveBarges wsX0_goOn := goodIn_r _ [37, 38, 39, 40, 41, 42, 78, 79, 80, 81] (by decide +kernel) (by decide +kernel)
set_option maxRecDepth 20000 in
theorem gX1_moveBarges_X0_goOn : GoodIn wsX1_moveBarges (wsV RX1 169 RX0 yX0_goOn wsX0_goOn) := goodIn_app (goodIn_of _ (by decide +kernel)) ggX1_moveBarges_X0_goOn
set_option maxRecDepth 20000 in
theorem ggX1_moveBarges_X1_breakThrough : GoodIn wsX1_moveBarges wsX1_breakThrough := goodIn_r _ [46, 13, 2, 14, 15, 47, 48, 16, 17, 18, 6, 19, 20, 21, 22, 23, 24, 25, 26, 27, 28, 29, 30, 31, 32, 49, 50, 51, 52, 53, 54, 40, 41, 42, 55, 56, 57, 58, 59, 60, 61, 62, 63, 64, 65, 66, 67, 68, 69, 70, 71, 72, 73, 74, 75, 76, 77, 78, 79, 80, 81] (by decide +kernel) (by decide +kernel)
set_option maxRecDepth 20000 in
theorem gX1_moveBarges_X1_breakThrough : GoodIn wsX1_moveBarges (wsV RX1 173 RX1 yX1_breakThrough wsX1_breakThrough) := goodIn_app (goodIn_of _ (by decide +kernel)) ggX1_moveBarges_X1_breakThrough
set_option maxRecDepth 20000 in
theorem ggX1_breakThrough_X1_weirAt : GoodIn wsX1_breakThrough wsX1_weirAt := goodIn_r _ [11, 1, 12, 39, 40, 41, 42, 43, 44, 45, 46, 47, 48] (by decide +kernel) (by decide +kernel)
set_option maxRecDepth 20000 in
theorem gX1_breakThrough_X1_weirAt : GoodIn wsX1_breakThrough (wsV RX1 43 RX1 yX1_weirAt wsX1_weirAt) := goodIn_app (goodIn_of _ (by decide +kernel)) ggX1_breakThrough_X1_weirAt
set_option maxRecDepth 20000 in
theorem ggX1_breakThrough_X2_isInWay : GoodIn wsX1_breakThrough wsX2_isInWay := goodIn_r _ [17, 18, 19, 20, 21, 16, 22, 23, 24, 49, 50, 51, 52, 53, 54, 55, 56] (by decide +kernel) (by decide +kernel)
set_option maxRecDepth 20000 in
theorem gX1_breakThrough_X2_isInWay : GoodIn wsX1_breakThrough (wsV RX1 141 RX2 yX2_isInWay wsX2_isInWay) := goodIn_app (goodIn_of _ (by decide +kernel)) ggX1_breakThrough_X2_isInWay
set_option maxRecDepth 20000 in
theorem ggX1_breakThrough_X2_breakFor : GoodIn wsX1_breakThrough wsX2_breakFor := goodIn_r _ [28, 18, 29, 30, 31, 32, 33, 34, 35, 36, 16, 37, 38, 49, 50, 51, 52, 53, 54, 55, 56] (by decide +kernel) (by decide +kernel)
set_option maxRecDepth 20000 in
theorem gX1_breakThrough_X2_breakFor : GoodIn wsX1_breakThrough (wsV RX1 176 RX2 yX2_breakFor wsX2_breakFor) := goodIn_app (goodIn_of _ (by decide +kernel)) ggX1_breakThrough_X2_breakFor
set_option maxRecDepth 20000 in
theorem ggX1_leaveOutArrived_X1_bargeAt : GoodIn wsX1_leaveOutArrived wsX1_bargeAt := goodIn_r _ [8, 1, 9, 22, 23, 24, 25, 26, 27, 28, 29, 30, 31] (by decide +kernel) (by decide +kernel)
set_option maxRecDepth 20000 in
theorem gX1_leaveOutArrived_X1_bargeAt : GoodIn wsX1_leaveOutArrived (wsV RX1 54 RX1 yX1_bargeAt wsX1_bargeAt) := goodIn_app (goodIn_of _ (by decide +kernel)) ggX1_leaveOutArrived_X1_bargeAt
set_option maxRecDepth 20000 in
theorem ggX1_leaveOutArrived_X1_copyBarge : GoodIn wsX1_leaveOutArrived wsX1_copyBarge := goodIn_r _ [12, 13, 14, 15, 16, 17, 18, 19, 20, 21, 32, 33, 34, 35] (by decide +kernel) (by decide +kernel)
set_option maxRecDepth 20000 in
theorem gX1_leaveOutArrived_X1_copyBarge : GoodIn wsX1_leaveOutArrived (va_wsS RX1 58 yX1_copyBarge wsX1_copyBarge) := goodIn_app (goodIn_of _ (by decide +kernel)) ggX1_leaveOutArrived_X1_copyBarge
set_option maxRecDepth 20000 in
theorem ggX1_rotWattle_X1_moon : GoodIn wsX1_rotWattle wsX1_moon := goodIn_r _ [6, 7, 8, 9, 10, 11, 28, 29, 30, 31, 32, 33, 34, 35, 36, 37] (by decide +kernel) (by decide +kernel)
set_option maxRecDepth 20000 in
theorem gX1_rotWattle_X1_moon : GoodIn wsX1_rotWattle (wsV RX1 107 RX1 yX1_moon wsX1_moon) := goodIn_app (goodIn_of _ (by decide +kernel)) ggX1_rotWattle_X1_moon
set_option maxRecDepth 20000 in
theorem ggX1_rotWattle_X1_weirAt : GoodIn wsX1_rotWattle wsX1_weirAt := goodIn_r _ [15, 1, 16, 28, 29, 30, 31, 32, 33, 34, 35, 36, 37] (by decide +kernel) (by decide +kernel)
set_option maxRecDepth 20000 in
theorem gX1_rotWattle_X1_weirAt : GoodIn wsX1_rotWattle (wsV RX1 43 RX1 yX1_weirAt wsX1_weirAt) := goodIn_app (goodIn_of _ (by decide +kernel)) ggX1_rotWattle_X1_weirAt
set_option maxRecDepth 20000 in
theorem ggX1_rotWattle_X2_isHeld : GoodIn wsX1_rotWattle wsX2_isHeld := goodIn_r _ [21, 22, 38, 39, 40, 41, 42, 43, 44, 45] (by decide +kernel) (by decide +kernel)
set_option maxRecDepth 20000 in
theorem gX1_rotWattle_X2_isHeld : GoodIn wsX1_rotWattle (wsV RX1 131 RX2 yX2_isHeld wsX2_isHeld) := goodIn_app (goodIn_of _ (by decide +kernel)) ggX1_rotWattle_X2_isHeld
set_option maxRecDepth 20000 in
theorem ggX1_rotWattle_X2_loseWattle : GoodIn wsX1_rotWattle wsX2_loseWattle := goodIn_r _ [26, 27, 38, 39, 40, 41, 42, 43, 44, 45] (by decide +kernel) (by decide +kernel)
set_option maxRecDepth 20000 in
theorem gX1_rotWattle_X2_loseWattle : GoodIn wsX1_rotWattle (wsV RX1 179 RX2 yX2_loseWattle wsX2_loseWattle) := goodIn_app (goodIn_of _ (by decide +kernel)) ggX1_rotWattle_X2_loseWattle
set_option maxRecDepth 20000 in
theorem ggX1_collectRents_X1_weirAt : GoodIn wsX1_collectRents wsX1_weirAt := goodIn_r _ [7, 1, 8, 22, 23, 24, 25, 26, 27, 28, 29, 30, 31] (by decide +kernel) (by decide +kernel)
set_option maxRecDepth 20000 in
theorem gX1_collectRents_X1_weirAt : GoodIn wsX1_collectRents (wsV RX1 43 RX1 yX1_weirAt wsX1_weirAt) := goodIn_app (goodIn_of _ (by decide +kernel)) ggX1_collectRents_X1_weirAt
set_option maxRecDepth 20000 in
theorem ggX1_collectRents_X2_isHeld : GoodIn wsX1_collectRents wsX2_isHeld := goodIn_r _ [13, 14, 32, 33, 34, 35, 36, 37, 38, 39] (by decide +kernel) (by decide +kernel)
set_option maxRecDepth 20000 in
theorem gX1_collectRents_X2_isHeld : GoodIn wsX1_collectRents (wsV RX1 131 RX2 yX2_isHeld wsX2_isHeld) := goodIn_app (goodIn_of _ (by decide +kernel)) ggX1_collectRents_X2_isHeld
set_option maxRecDepth 20000 in
theorem ggX1_collectRents_X2_payRent : GoodIn wsX1_collectRents wsX2_payRent := goodIn_r _ [18, 19, 20, 14, 21, 32, 33, 34, 35, 36, 37, 38, 39] (by decide +kernel) (by decide +kernel)
set_option maxRecDepth 20000 in
theorem gX1_collectRents_X2_payRent : GoodIn wsX1_collectRents (wsV RX1 182 RX2 yX2_payRent wsX2_payRent) := goodIn_app (goodIn_of _ (by decide +kernel)) ggX1_collectRents_X2_payRent
end
section
theorem dX1_init_0 : decode cX1_init 0 = .ok (.aload_n 0, 1) := by decide +kernel
theorem dX1_init_1 : decode cX1_init 1 = .ok (.invokespecial 3, 3) := by decide +kernel
theorem dX1_init_4 : decode cX1_init 4 = .ok (.aload_n 0, 1) := by decide +kernel
theorem dX1_init_5 : decode cX1_init 5 = .ok (.bipush 7, 2) := by decide +kernel
theorem dX1_init_7 : decode cX1_init 7 = .ok (.newarray .int, 2) := by decide +kernel
theorem dX1_init_9 : decode cX1_init 9 = .ok (.putfield 9, 3) := by decide +kernel
theorem dX1_init_12 : decode cX1_init 12 = .ok (.iconst 0, 1) := by decide +kernel
theorem dX1_init_13 : decode cX1_init 13 = .ok (.istore_n 1, 1) := by decide +kernel
theorem dX1_init_14 : decode cX1_init 14 = .ok (.iload_n 1, 1) := by decide +kernel
theorem dX1_init_15 : decode cX1_init 15 = .ok (.aload_n 0, 1) := by decide +kernel
theorem dX1_init_16 : decode cX1_init 16 = .ok (.getfield 9, 3) := by decide +kernel
theorem dX1_init_19 : decode cX1_init 19 = .ok (.arraylength, 1) := by decide +kernel
theorem dX1_init_20 : decode cX1_init 20 = .ok (.if_icmp .ge 17, 3) := by decide +kernel
theorem dX1_init_23 : decode cX1_init 23 = .ok (.aload_n 0, 1) := by decide +kernel
theorem dX1_init_24 : decode cX1_init 24 = .ok (.getfield 9, 3) := by decide +kernel
theorem dX1_init_27 : decode cX1_init 27 = .ok (.iload_n 1, 1) := by decide +kernel
theorem dX1_init_28 : decode cX1_init 28 = .ok (.bipush 30, 2) := by decide +kernel
theorem dX1_init_30 : decode cX1_init 30 = .ok (.iastore, 1) := by decide +kernel
theorem dX1_init_31 : decode cX1_init 31 = .ok (.iinc 1 1, 3) := by decide +kernel
theorem dX1_init_34 : decode cX1_init 34 = .ok (.goto (-20), 3) := by decide +kernel
theorem dX1_init_37 : decode cX1_init 37 = .ok (.aload_n 0, 1) := by decide +kernel
theorem dX1_init_38 : decode cX1_init 38 = .ok (.bipush 6, 2) := by decide +kernel
theorem dX1_init_40 : decode cX1_init 40 = .ok (.newarray .int, 2) := by decide +kernel
theorem dX1_init_42 : decode cX1_init 42 = .ok (.putfield 15, 3) := by decide +kernel
theorem dX1_init_45 : decode cX1_init 45 = .ok (.aload_n 0, 1) := by decide +kernel
theorem dX1_init_46 : decode cX1_init 46 = .ok (.bipush 6, 2) := by decide +kernel
theorem dX1_init_48 : decode cX1_init 48 = .ok (.anewarray 18, 3) := by decide +kernel
theorem dX1_init_51 : decode cX1_init 51 = .ok (.putfield 20, 3) := by decide +kernel
theorem dX1_init_54 : decode cX1_init 54 = .ok (.iconst 0, 1) := by decide +kernel
theorem dX1_init_55 : decode cX1_init 55 = .ok (.istore_n 1, 1) := by decide +kernel
theorem dX1_init_56 : decode cX1_init 56 = .ok (.iload_n 1, 1) := by decide +kernel
theorem dX1_init_57 : decode cX1_init 57 = .ok (.aload_n 0, 1) := by decide +kernel
theorem dX1_init_58 : decode cX1_init 58 = .ok (.getfield 20, 3) := by decide +kernel
theorem dX1_init_61 : decode cX1_init 61 = .ok (.arraylength, 1) := by decide +kernel
theorem dX1_init_62 : decode cX1_init 62 = .ok (.if_icmp .ge 22, 3) := by decide +kernel
theorem dX1_init_65 : decode cX1_init 65 = .ok (.aload_n 0, 1) := by decide +kernel
theorem dX1_init_66 : decode cX1_init 66 = .ok (.getfield 20, 3) := by decide +kernel
theorem dX1_init_69 : decode cX1_init 69 = .ok (.iload_n 1, 1) := by decide +kernel
theorem dX1_init_70 : decode cX1_init 70 = .ok (.new 18, 3) := by decide +kernel
theorem dX1_init_73 : decode cX1_init 73 = .ok (.dup, 1) := by decide +kernel
theorem dX1_init_74 : decode cX1_init 74 = .ok (.invokespecial 24, 3) := by decide +kernel
theorem dX1_init_77 : decode cX1_init 77 = .ok (.aastore, 1) := by decide +kernel
theorem dX1_init_78 : decode cX1_init 78 = .ok (.iinc 1 1, 3) := by decide +kernel
theorem dX1_init_81 : decode cX1_init 81 = .ok (.goto (-25), 3) := by decide +kernel
theorem dX1_init_84 : decode cX1_init 84 = .ok (.aload_n 0, 1) := by decide +kernel
theorem dX1_init_85 : decode cX1_init 85 = .ok (.iconst 5, 1) := by decide +kernel
theorem dX1_init_86 : decode cX1_init 86 = .ok (.anewarray 25, 3) := by decide +kernel
theorem dX1_init_89 : decode cX1_init 89 = .ok (.putfield 27, 3) := by decide +kernel
theorem dX1_init_92 : decode cX1_init 92 = .ok (.iconst 0, 1) := by decide +kernel
theorem dX1_init_93 : decode cX1_init 93 = .ok (.istore_n 1, 1) := by decide +kernel
theorem dX1_init_94 : decode cX1_init 94 = .ok (.iload_n 1, 1) := by decide +kernel
theorem dX1_init_95 : decode cX1_init 95 = .ok (.aload_n 0, 1) := by decide +kernel
theorem dX1_init_96 : decode cX1_init 96 = .ok (.getfield 27, 3) := by decide +kernel
theorem dX1_init_99 : decode cX1_init 99 = .ok (.arraylength, 1) := by decide +kernel
theorem dX1_init_100 : decode cX1_init 100 = .ok (.if_icmp .ge 22, 3) := by decide +kernel
theorem dX1_init_103 : decode cX1_init 103 = .ok (.aload_n 0, 1) := by decide +kernel
theorem dX1_init_104 : decode cX1_init 104 = .ok (.getfield 27, 3) := by decide +kernel
theorem dX1_init_107 : decode cX1_init 107 = .ok (.iload_n 1, 1) := by decide +kernel
theorem dX1_init_108 : decode cX1_init 108 = .ok (.new 25, 3) := by decide +kernel
theorem dX1_init_111 : decode cX1_init 111 = .ok (.dup, 1) := by decide +kernel
theorem dX1_init_112 : decode cX1_init 112 = .ok (.invokespecial 31, 3) := by decide +kernel
theorem dX1_init_115 : decode cX1_init 115 = .ok (.aastore, 1) := by decide +kernel
theorem dX1_init_116 : decode cX1_init 116 = .ok (.iinc 1 1, 3) := by decide +kernel
theorem dX1_init_119 : decode cX1_init 119 = .ok (.goto (-25), 3) := by decide +kernel
theorem dX1_init_122 : decode cX1_init 122 = .ok (.return_, 1) := by decide +kernel
theorem dX1_copyFrom_0 : decode cX1_copyFrom 0 = .ok (.iconst 0, 1) := by decide +kernel
theorem dX1_copyFrom_1 : decode cX1_copyFrom 1 = .ok (.istore_n 2, 1) := by decide +kernel
theorem dX1_copyFrom_2 : decode cX1_copyFrom 2 = .ok (.iload_n 2, 1) := by decide +kernel
theorem dX1_copyFrom_3 : decode cX1_copyFrom 3 = .ok (.aload_n 0, 1) := by decide +kernel
theorem dX1_copyFrom_4 : decode cX1_copyFrom 4 = .ok (.getfield 9, 3) := by decide +kernel
theorem dX1_copyFrom_7 : decode cX1_copyFrom 7 = .ok (.arraylength, 1) := by decide +kernel
theorem dX1_copyFrom_8 : decode cX1_copyFrom 8 = .ok (.if_icmp .ge 20, 3) := by decide +kernel
theorem dX1_copyFrom_11 : decode cX1_copyFrom 11 = .ok (.aload_n 0, 1) := by decide +kernel
theorem dX1_copyFrom_12 : decode cX1_copyFrom 12 = .ok (.getfield 9, 3) := by decide +kernel
theorem dX1_copyFrom_15 : decode cX1_copyFrom 15 = .ok (.iload_n 2, 1) := by decide +kernel
theorem dX1_copyFrom_16 : decode cX1_copyFrom 16 = .ok (.aload_n 1, 1) := by decide +kernel
theorem dX1_copyFrom_17 : decode cX1_copyFrom 17 = .ok (.iload_n 2, 1) := by decide +kernel
theorem dX1_copyFrom_18 : decode cX1_copyFrom 18 = .ok (.invokevirtual 32, 3) := by decide +kernel
theorem dX1_copyFrom_21 : decode cX1_copyFrom 21 = .ok (.iastore, 1) := by decide +kernel
theorem dX1_copyFrom_22 : decode cX1_copyFrom 22 = .ok (.iinc 2 1, 3) := by decide +kernel
theorem dX1_copyFrom_25 : decode cX1_copyFrom 25 = .ok (.goto (-23), 3) := by decide +kernel
theorem dX1_copyFrom_28 : decode cX1_copyFrom 28 = .ok (.iconst 0, 1) := by decide +kernel
theorem dX1_copyFrom_29 : decode cX1_copyFrom 29 = .ok (.istore_n 2, 1) := by decide +kernel
theorem dX1_copyFrom_30 : decode cX1_copyFrom 30 = .ok (.iload_n 2, 1) := by decide +kernel
theorem dX1_copyFrom_31 : decode cX1_copyFrom 31 = .ok (.aload_n 0, 1) := by decide +kernel
theorem dX1_copyFrom_32 : decode cX1_copyFrom 32 = .ok (.getfield 15, 3) := by decide +kernel
theorem dX1_copyFrom_35 : decode cX1_copyFrom 35 = .ok (.arraylength, 1) := by decide +kernel
theorem dX1_copyFrom_36 : decode cX1_copyFrom 36 = .ok (.if_icmp .ge 20, 3) := by decide +kernel
theorem dX1_copyFrom_39 : decode cX1_copyFrom 39 = .ok (.aload_n 0, 1) := by decide +kernel
theorem dX1_copyFrom_40 : decode cX1_copyFrom 40 = .ok (.getfield 15, 3) := by decide +kernel
theorem dX1_copyFrom_43 : decode cX1_copyFrom 43 = .ok (.iload_n 2, 1) := by decide +kernel
theorem dX1_copyFrom_44 : decode cX1_copyFrom 44 = .ok (.aload_n 1, 1) := by decide +kernel
theorem dX1_copyFrom_45 : decode cX1_copyFrom 45 = .ok (.iload_n 2, 1) := by decide +kernel
theorem dX1_copyFrom_46 : decode cX1_copyFrom 46 = .ok (.invokevirtual 36, 3) := by decide +kernel
theorem dX1_copyFrom_49 : decode cX1_copyFrom 49 = .ok (.iastore, 1) := by decide +kernel
theorem dX1_copyFrom_50 : decode cX1_copyFrom 50 = .ok (.iinc 2 1, 3) := by decide +kernel
theorem dX1_copyFrom_53 : decode cX1_copyFrom 53 = .ok (.goto (-23), 3) := by decide +kernel
theorem dX1_copyFrom_56 : decode cX1_copyFrom 56 = .ok (.aload_n 0, 1) := by decide +kernel
theorem dX1_copyFrom_57 : decode cX1_copyFrom 57 = .ok (.aload_n 1, 1) := by decide +kernel
theorem dX1_copyFrom_58 : decode cX1_copyFrom 58 = .ok (.getfield 39, 3) := by decide +kernel
theorem dX1_copyFrom_61 : decode cX1_copyFrom 61 = .ok (.putfield 39, 3) := by decide +kernel
theorem dX1_copyFrom_64 : decode cX1_copyFrom 64 = .ok (.iconst 0, 1) := by decide +kernel
theorem dX1_copyFrom_65 : decode cX1_copyFrom 65 = .ok (.istore_n 2, 1) := by decide +kernel
theorem dX1_copyFrom_66 : decode cX1_copyFrom 66 = .ok (.iload_n 2, 1) := by decide +kernel
theorem dX1_copyFrom_67 : decode cX1_copyFrom 67 = .ok (.aload_n 0, 1) := by decide +kernel
theorem dX1_copyFrom_68 : decode cX1_copyFrom 68 = .ok (.getfield 39, 3) := by decide +kernel
theorem dX1_copyFrom_71 : decode cX1_copyFrom 71 = .ok (.if_icmp .ge 22, 3) := by decide +kernel
theorem dX1_copyFrom_74 : decode cX1_copyFrom 74 = .ok (.aload_n 0, 1) := by decide +kernel
theorem dX1_copyFrom_75 : decode cX1_copyFrom 75 = .ok (.iload_n 2, 1) := by decide +kernel
theorem dX1_copyFrom_76 : decode cX1_copyFrom 76 = .ok (.invokevirtual 43, 3) := by decide +kernel
theorem dX1_copyFrom_79 : decode cX1_copyFrom 79 = .ok (.aload_n 1, 1) := by decide +kernel
theorem dX1_copyFrom_80 : decode cX1_copyFrom 80 = .ok (.iload_n 2, 1) := by decide +kernel
theorem dX1_copyFrom_81 : decode cX1_copyFrom 81 = .ok (.invokevirtual 43, 3) := by decide +kernel
theorem dX1_copyFrom_84 : decode cX1_copyFrom 84 = .ok (.invokestatic 47, 3) := by decide +kernel
theorem dX1_copyFrom_87 : decode cX1_copyFrom 87 = .ok (.iinc 2 1, 3) := by decide +kernel
theorem dX1_copyFrom_90 : decode cX1_copyFrom 90 = .ok (.goto (-24), 3) := by decide +kernel
theorem dX1_copyFrom_93 : decode cX1_copyFrom 93 = .ok (.aload_n 0, 1) := by decide +kernel
theorem dX1_copyFrom_94 : decode cX1_copyFrom 94 = .ok (.aload_n 1, 1) := by decide +kernel
theorem dX1_copyFrom_95 : decode cX1_copyFrom 95 = .ok (.getfield 51, 3) := by decide +kernel
theorem dX1_copyFrom_98 : decode cX1_copyFrom 98 = .ok (.putfield 51, 3) := by decide +kernel
theorem dX1_copyFrom_101 : decode cX1_copyFrom 101 = .ok (.iconst 0, 1) := by decide +kernel
theorem dX1_copyFrom_102 : decode cX1_copyFrom 102 = .ok (.istore_n 2, 1) := by decide +kernel
theorem dX1_copyFrom_103 : decode cX1_copyFrom 103 = .ok (.iload_n 2, 1) := by decide +kernel
theorem dX1_copyFrom_104 : decode cX1_copyFrom 104 = .ok (.aload_n 0, 1) := by decide +kernel
theorem dX1_copyFrom_105 : decode cX1_copyFrom 105 = .ok (.getfield 51, 3) := by decide +kernel
theorem dX1_copyFrom_108 : decode cX1_copyFrom 108 = .ok (.if_icmp .ge 22, 3) := by decide +kernel
theorem dX1_copyFrom_111 : decode cX1_copyFrom 111 = .ok (.aload_n 0, 1) := by decide +kernel
theorem dX1_copyFrom_112 : decode cX1_copyFrom 112 = .ok (.iload_n 2, 1) := by decide +kernel
theorem dX1_copyFrom_113 : decode cX1_copyFrom 113 = .ok (.invokevirtual 54, 3) := by decide +kernel
theorem dX1_copyFrom_116 : decode cX1_copyFrom 116 = .ok (.aload_n 1, 1) := by decide +kernel
theorem dX1_copyFrom_117 : decode cX1_copyFrom 117 = .ok (.iload_n 2, 1) := by decide +kernel
theorem dX1_copyFrom_118 : decode cX1_copyFrom 118 = .ok (.invokevirtual 54, 3) := by decide +kernel
theorem dX1_copyFrom_121 : decode cX1_copyFrom 121 = .ok (.invokestatic 58, 3) := by decide +kernel
theorem dX1_copyFrom_124 : decode cX1_copyFrom 124 = .ok (.iinc 2 1, 3) := by decide +kernel
theorem dX1_copyFrom_127 : decode cX1_copyFrom 127 = .ok (.goto (-24), 3) := by decide +kernel
theorem dX1_copyFrom_130 : decode cX1_copyFrom 130 = .ok (.aload_n 0, 1) := by decide +kernel
theorem dX1_copyFrom_131 : decode cX1_copyFrom 131 = .ok (.aload_n 1, 1) := by decide +kernel
theorem dX1_copyFrom_132 : decode cX1_copyFrom 132 = .ok (.getfield 62, 3) := by decide +kernel
theorem dX1_copyFrom_135 : decode cX1_copyFrom 135 = .ok (.putfield 62, 3) := by decide +kernel
theorem dX1_copyFrom_138 : decode cX1_copyFrom 138 = .ok (.aload_n 0, 1) := by decide +kernel
theorem dX1_copyFrom_139 : decode cX1_copyFrom 139 = .ok (.aload_n 1, 1) := by decide +kernel
theorem dX1_copyFrom_140 : decode cX1_copyFrom 140 = .ok (.getfield 65, 3) := by decide +kernel
theorem dX1_copyFrom_143 : decode cX1_copyFrom 143 = .ok (.putfield 65, 3) := by decide +kernel
theorem dX1_copyFrom_146 : decode cX1_copyFrom 146 = .ok (.aload_n 0, 1) := by decide +kernel
theorem dX1_copyFrom_147 : decode cX1_copyFrom 147 = .ok (.aload_n 1, 1) := by decide +kernel
theorem dX1_copyFrom_148 : decode cX1_copyFrom 148 = .ok (.getfield 68, 3) := by decide +kernel
theorem dX1_copyFrom_151 : decode cX1_copyFrom 151 = .ok (.putfield 68, 3) := by decide +kernel
theorem dX1_copyFrom_154 : decode cX1_copyFrom 154 = .ok (.aload_n 0, 1) := by decide +kernel
theorem dX1_copyFrom_155 : decode cX1_copyFrom 155 = .ok (.aload_n 1, 1) := by decide +kernel
theorem dX1_copyFrom_156 : decode cX1_copyFrom 156 = .ok (.getfield 71, 3) := by decide +kernel
theorem dX1_copyFrom_159 : decode cX1_copyFrom 159 = .ok (.putfield 71, 3) := by decide +kernel
theorem dX1_copyFrom_162 : decode cX1_copyFrom 162 = .ok (.return_, 1) := by decide +kernel
theorem dX1_copyWeir_0 : decode cX1_copyWeir 0 = .ok (.aload_n 0, 1) := by decide +kernel
theorem dX1_copyWeir_1 : decode cX1_copyWeir 1 = .ok (.ifnull 12, 3) := by decide +kernel
theorem dX1_copyWeir_4 : decode cX1_copyWeir 4 = .ok (.aload_n 1, 1) := by decide +kernel
theorem dX1_copyWeir_5 : decode cX1_copyWeir 5 = .ok (.ifnull 8, 3) := by decide +kernel
theorem dX1_copyWeir_8 : decode cX1_copyWeir 8 = .ok (.aload_n 0, 1) := by decide +kernel
theorem dX1_copyWeir_9 : decode cX1_copyWeir 9 = .ok (.aload_n 1, 1) := by decide +kernel
theorem dX1_copyWeir_10 : decode cX1_copyWeir 10 = .ok (.invokevirtual 74, 3) := by decide +kernel
theorem dX1_copyWeir_13 : decode cX1_copyWeir 13 = .ok (.return_, 1) := by decide +kernel
theorem dX1_copyBarge_0 : decode cX1_copyBarge 0 = .ok (.aload_n 0, 1) := by decide +kernel
theorem dX1_copyBarge_1 : decode cX1_copyBarge 1 = .ok (.ifnull 12, 3) := by decide +kernel
theorem dX1_copyBarge_4 : decode cX1_copyBarge 4 = .ok (.aload_n 1, 1) := by decide +kernel
theorem dX1_copyBarge_5 : decode cX1_copyBarge 5 = .ok (.ifnull 8, 3) := by decide +kernel
theorem dX1_copyBarge_8 : decode cX1_copyBarge 8 = .ok (.aload_n 0, 1) := by decide +kernel
theorem dX1_copyBarge_9 : decode cX1_copyBarge 9 = .ok (.aload_n 1, 1) := by decide +kernel
theorem dX1_copyBarge_10 : decode cX1_copyBarge 10 = .ok (.invokevirtual 78, 3) := by decide +kernel
theorem dX1_copyBarge_13 : decode cX1_copyBarge 13 = .ok (.return_, 1) := by decide +kernel
theorem dX1_weirAt_0 : decode cX1_weirAt 0 = .ok (.iload_n 1, 1) := by decide +kernel
theorem dX1_weirAt_1 : decode cX1_weirAt 1 = .ok (.ifCond .lt 24, 3) := by decide +kernel
theorem dX1_weirAt_4 : decode cX1_weirAt 4 = .ok (.iload_n 1, 1) := by decide +kernel
theorem dX1_weirAt_5 : decode cX1_weirAt 5 = .ok (.aload_n 0, 1) := by decide +kernel
theorem dX1_weirAt_6 : decode cX1_weirAt 6 = .ok (.getfield 39, 3) := by decide +kernel
theorem dX1_weirAt_9 : decode cX1_weirAt 9 = .ok (.if_icmp .ge 16, 3) := by decide +kernel
theorem dX1_weirAt_12 : decode cX1_weirAt 12 = .ok (.iload_n 1, 1) := by decide +kernel
theorem dX1_weirAt_13 : decode cX1_weirAt 13 = .ok (.aload_n 0, 1) := by decide +kernel
theorem dX1_weirAt_14 : decode cX1_weirAt 14 = .ok (.getfield 20, 3) := by decide +kernel
theorem dX1_weirAt_17 : decode cX1_weirAt 17 = .ok (.arraylength, 1) := by decide +kernel
theorem dX1_weirAt_18 : decode cX1_weirAt 18 = .ok (.if_icmp .ge 7, 3) := by decide +kernel
theorem dX1_weirAt_21 : decode cX1_weirAt 21 = .ok (.iconst 1, 1) := by decide +kernel
theorem dX1_weirAt_22 : decode cX1_weirAt 22 = .ok (.goto 4, 3) := by decide +kernel
theorem dX1_weirAt_25 : decode cX1_weirAt 25 = .ok (.iconst 0, 1) := by decide +kernel
theorem dX1_weirAt_26 : decode cX1_weirAt 26 = .ok (.istore_n 2, 1) := by decide +kernel
theorem dX1_weirAt_27 : decode cX1_weirAt 27 = .ok (.iload_n 2, 1) := by decide +kernel
theorem dX1_weirAt_28 : decode cX1_weirAt 28 = .ok (.ifCond .eq 12, 3) := by decide +kernel
theorem dX1_weirAt_31 : decode cX1_weirAt 31 = .ok (.aload_n 0, 1) := by decide +kernel
theorem dX1_weirAt_32 : decode cX1_weirAt 32 = .ok (.getfield 20, 3) := by decide +kernel
theorem dX1_weirAt_35 : decode cX1_weirAt 35 = .ok (.iload_n 1, 1) := by decide +kernel
theorem dX1_weirAt_36 : decode cX1_weirAt 36 = .ok (.aaload, 1) := by decide +kernel
theorem dX1_weirAt_37 : decode cX1_weirAt 37 = .ok (.goto 4, 3) := by decide +kernel
theorem dX1_weirAt_40 : decode cX1_weirAt 40 = .ok (.aconst_null, 1) := by decide +kernel
theorem dX1_weirAt_41 : decode cX1_weirAt 41 = .ok (.areturn, 1) := by decide +kernel
theorem dX1_bargeAt_0 : decode cX1_bargeAt 0 = .ok (.iload_n 1, 1) := by decide +kernel
theorem dX1_bargeAt_1 : decode cX1_bargeAt 1 = .ok (.ifCond .lt 24, 3) := by decide +kernel
theorem dX1_bargeAt_4 : decode cX1_bargeAt 4 = .ok (.iload_n 1, 1) := by decide +kernel
theorem dX1_bargeAt_5 : decode cX1_bargeAt 5 = .ok (.aload_n 0, 1) := by decide +kernel
theorem dX1_bargeAt_6 : decode cX1_bargeAt 6 = .ok (.getfield 51, 3) := by decide +kernel
theorem dX1_bargeAt_9 : decode cX1_bargeAt 9 = .ok (.if_icmp .ge 16, 3) := by decide +kernel
theorem dX1_bargeAt_12 : decode cX1_bargeAt 12 = .ok (.iload_n 1, 1) := by decide +kernel
theorem dX1_bargeAt_13 : decode cX1_bargeAt 13 = .ok (.aload_n 0, 1) := by decide +kernel
theorem dX1_bargeAt_14 : decode cX1_bargeAt 14 = .ok (.getfield 27, 3) := by decide +kernel
theorem dX1_bargeAt_17 : decode cX1_bargeAt 17 = .ok (.arraylength, 1) := by decide +kernel
theorem dX1_bargeAt_18 : decode cX1_bargeAt 18 = .ok (.if_icmp .ge 7, 3) := by decide +kernel
theorem dX1_bargeAt_21 : decode cX1_bargeAt 21 = .ok (.iconst 1, 1) := by decide +kernel
theorem dX1_bargeAt_22 : decode cX1_bargeAt 22 = .ok (.goto 4, 3) := by decide +kernel
theorem dX1_bargeAt_25 : decode cX1_bargeAt 25 = .ok (.iconst 0, 1) := by decide +kernel
theorem dX1_bargeAt_26 : decode cX1_bargeAt 26 = .ok (.istore_n 2, 1) := by decide +kernel
theorem dX1_bargeAt_27 : decode cX1_bargeAt 27 = .ok (.iload_n 2, 1) := by decide +kernel
theorem dX1_bargeAt_28 : decode cX1_bargeAt 28 = .ok (.ifCond .eq 12, 3) := by decide +kernel
theorem dX1_bargeAt_31 : decode cX1_bargeAt 31 = .ok (.aload_n 0, 1) := by decide +kernel
theorem dX1_bargeAt_32 : decode cX1_bargeAt 32 = .ok (.getfield 27, 3) := by decide +kernel
theorem dX1_bargeAt_35 : decode cX1_bargeAt 35 = .ok (.iload_n 1, 1) := by decide +kernel
theorem dX1_bargeAt_36 : decode cX1_bargeAt 36 = .ok (.aaload, 1) := by decide +kernel
theorem dX1_bargeAt_37 : decode cX1_bargeAt 37 = .ok (.goto 4, 3) := by decide +kernel
theorem dX1_bargeAt_40 : decode cX1_bargeAt 40 = .ok (.aconst_null, 1) := by decide +kernel
theorem dX1_bargeAt_41 : decode cX1_bargeAt 41 = .ok (.areturn, 1) := by decide +kernel
theorem dX1_inOrder_0 : decode cX1_inOrder 0 = .ok (.iload_n 1, 1) := by decide +kernel
theorem dX1_inOrder_1 : decode cX1_inOrder 1 = .ok (.ifCond .lt 21, 3) := by decide +kernel
theorem dX1_inOrder_4 : decode cX1_inOrder 4 = .ok (.iload_n 1, 1) := by decide +kernel
theorem dX1_inOrder_5 : decode cX1_inOrder 5 = .ok (.aload_n 0, 1) := by decide +kernel
theorem dX1_inOrder_6 : decode cX1_inOrder 6 = .ok (.getfield 15, 3) := by decide +kernel
theorem dX1_inOrder_9 : decode cX1_inOrder 9 = .ok (.arraylength, 1) := by decide +kernel
theorem dX1_inOrder_10 : decode cX1_inOrder 10 = .ok (.if_icmp .ge 12, 3) := by decide +kernel
theorem dX1_inOrder_13 : decode cX1_inOrder 13 = .ok (.aload_n 0, 1) := by decide +kernel
theorem dX1_inOrder_14 : decode cX1_inOrder 14 = .ok (.getfield 15, 3) := by decide +kernel
theorem dX1_inOrder_17 : decode cX1_inOrder 17 = .ok (.iload_n 1, 1) := by decide +kernel
theorem dX1_inOrder_18 : decode cX1_inOrder 18 = .ok (.iaload, 1) := by decide +kernel
theorem dX1_inOrder_19 : decode cX1_inOrder 19 = .ok (.goto 4, 3) := by decide +kernel
theorem dX1_inOrder_22 : decode cX1_inOrder 22 = .ok (.iconst (-1), 1) := by decide +kernel
theorem dX1_inOrder_23 : decode cX1_inOrder 23 = .ok (.ireturn, 1) := by decide +kernel
theorem dX1_tableEels_0 : decode cX1_tableEels 0 = .ok (.iload_n 1, 1) := by decide +kernel
theorem dX1_tableEels_1 : decode cX1_tableEels 1 = .ok (.ifCond .lt 21, 3) := by decide +kernel
theorem dX1_tableEels_4 : decode cX1_tableEels 4 = .ok (.iload_n 1, 1) := by decide +kernel
theorem dX1_tableEels_5 : decode cX1_tableEels 5 = .ok (.aload_n 0, 1) := by decide +kernel
theorem dX1_tableEels_6 : decode cX1_tableEels 6 = .ok (.getfield 9, 3) := by decide +kernel
theorem dX1_tableEels_9 : decode cX1_tableEels 9 = .ok (.arraylength, 1) := by decide +kernel
theorem dX1_tableEels_10 : decode cX1_tableEels 10 = .ok (.if_icmp .ge 12, 3) := by decide +kernel
theorem dX1_tableEels_13 : decode cX1_tableEels 13 = .ok (.aload_n 0, 1) := by decide +kernel
theorem dX1_tableEels_14 : decode cX1_tableEels 14 = .ok (.getfield 9, 3) := by decide +kernel
theorem dX1_tableEels_17 : decode cX1_tableEels 17 = .ok (.iload_n 1, 1) := by decide +kernel
theorem dX1_tableEels_18 : decode cX1_tableEels 18 = .ok (.iaload, 1) := by decide +kernel
theorem dX1_tableEels_19 : decode cX1_tableEels 19 = .ok (.goto 4, 3) := by decide +kernel
theorem dX1_tableEels_22 : decode cX1_tableEels 22 = .ok (.iconst 0, 1) := by decide +kernel
theorem dX1_tableEels_23 : decode cX1_tableEels 23 = .ok (.ireturn, 1) := by decide +kernel
theorem dX1_setTableEels_0 : decode cX1_setTableEels 0 = .ok (.iload_n 1, 1) := by decide +kernel
theorem dX1_setTableEels_1 : decode cX1_setTableEels 1 = .ok (.ifCond .lt 19, 3) := by decide +kernel
theorem dX1_setTableEels_4 : decode cX1_setTableEels 4 = .ok (.iload_n 1, 1) := by decide +kernel
theorem dX1_setTableEels_5 : decode cX1_setTableEels 5 = .ok (.aload_n 0, 1) := by decide +kernel
theorem dX1_setTableEels_6 : decode cX1_setTableEels 6 = .ok (.getfield 9, 3) := by decide +kernel
theorem dX1_setTableEels_9 : decode cX1_setTableEels 9 = .ok (.arraylength, 1) := by decide +kernel
theorem dX1_setTableEels_10 : decode cX1_setTableEels 10 = .ok (.if_icmp .ge 10, 3) := by decide +kernel
theorem dX1_setTableEels_13 : decode cX1_setTableEels 13 = .ok (.aload_n 0, 1) := by decide +kernel
theorem dX1_setTableEels_14 : decode cX1_setTableEels 14 = .ok (.getfield 9, 3) := by decide +kernel
theorem dX1_setTableEels_17 : decode cX1_setTableEels 17 = .ok (.iload_n 1, 1) := by decide +kernel
theorem dX1_setTableEels_18 : decode cX1_setTableEels 18 = .ok (.iload_n 2, 1) := by decide +kernel
theorem dX1_setTableEels_19 : decode cX1_setTableEels 19 = .ok (.iastore, 1) := by decide +kernel
theorem dX1_setTableEels_20 : decode cX1_setTableEels 20 = .ok (.return_, 1) := by decide +kernel
theorem dX1_addWeir_0 : decode cX1_addWeir 0 = .ok (.aload_n 0, 1) := by decide +kernel
theorem dX1_addWeir_1 : decode cX1_addWeir 1 = .ok (.getfield 39, 3) := by decide +kernel
theorem dX1_addWeir_4 : decode cX1_addWeir 4 = .ok (.istore 4, 2) := by decide +kernel
theorem dX1_addWeir_6 : decode cX1_addWeir 6 = .ok (.aload_n 0, 1) := by decide +kernel
theorem dX1_addWeir_7 : decode cX1_addWeir 7 = .ok (.iload 4, 2) := by decide +kernel
theorem dX1_addWeir_9 : decode cX1_addWeir 9 = .ok (.iload_n 1, 1) := by decide +kernel
theorem dX1_addWeir_10 : decode cX1_addWeir 10 = .ok (.invokevirtual 81, 3) := by decide +kernel
theorem dX1_addWeir_13 : decode cX1_addWeir 13 = .ok (.aload_n 0, 1) := by decide +kernel
theorem dX1_addWeir_14 : decode cX1_addWeir 14 = .ok (.dup, 1) := by decide +kernel
theorem dX1_addWeir_15 : decode cX1_addWeir 15 = .ok (.getfield 39, 3) := by decide +kernel
theorem dX1_addWeir_18 : decode cX1_addWeir 18 = .ok (.iconst 1, 1) := by decide +kernel
theorem dX1_addWeir_19 : decode cX1_addWeir 19 = .ok (.iadd, 1) := by decide +kernel
theorem dX1_addWeir_20 : decode cX1_addWeir 20 = .ok (.putfield 39, 3) := by decide +kernel
theorem dX1_addWeir_23 : decode cX1_addWeir 23 = .ok (.aload_n 0, 1) := by decide +kernel
theorem dX1_addWeir_24 : decode cX1_addWeir 24 = .ok (.iload 4, 2) := by decide +kernel
theorem dX1_addWeir_26 : decode cX1_addWeir 26 = .ok (.invokevirtual 43, 3) := by decide +kernel
theorem dX1_addWeir_29 : decode cX1_addWeir 29 = .ok (.astore 5, 2) := by decide +kernel
theorem dX1_addWeir_31 : decode cX1_addWeir 31 = .ok (.aload 5, 2) := by decide +kernel
theorem dX1_addWeir_33 : decode cX1_addWeir 33 = .ok (.ifnull 11, 3) := by decide +kernel
theorem dX1_addWeir_36 : decode cX1_addWeir 36 = .ok (.aload 5, 2) := by decide +kernel
theorem dX1_addWeir_38 : decode cX1_addWeir 38 = .ok (.iload_n 1, 1) := by decide +kernel
theorem dX1_addWeir_39 : decode cX1_addWeir 39 = .ok (.iload_n 2, 1) := by decide +kernel
theorem dX1_addWeir_40 : decode cX1_addWeir 40 = .ok (.iload_n 3, 1) := by decide +kernel
theorem dX1_addWeir_41 : decode cX1_addWeir 41 = .ok (.invokevirtual 85, 3) := by decide +kernel
theorem dX1_addWeir_44 : decode cX1_addWeir 44 = .ok (.iload 4, 2) := by decide +kernel
theorem dX1_addWeir_46 : decode cX1_addWeir 46 = .ok (.ireturn, 1) := by decide +kernel
theorem dX1_putInOrder_0 : decode cX1_putInOrder 0 = .ok (.iload_n 1, 1) := by decide +kernel
theorem dX1_putInOrder_1 : decode cX1_putInOrder 1 = .ok (.istore_n 3, 1) := by decide +kernel
theorem dX1_putInOrder_2 : decode cX1_putInOrder 2 = .ok (.iload_n 3, 1) := by decide +kernel
theorem dX1_putInOrder_3 : decode cX1_putInOrder 3 = .ok (.ifCond .le 48, 3) := by decide +kernel
theorem dX1_putInOrder_6 : decode cX1_putInOrder 6 = .ok (.iload_n 3, 1) := by decide +kernel
theorem dX1_putInOrder_7 : decode cX1_putInOrder 7 = .ok (.aload_n 0, 1) := by decide +kernel
theorem dX1_putInOrder_8 : decode cX1_putInOrder 8 = .ok (.getfield 15, 3) := by decide +kernel
theorem dX1_putInOrder_11 : decode cX1_putInOrder 11 = .ok (.arraylength, 1) := by decide +kernel
theorem dX1_putInOrder_12 : decode cX1_putInOrder 12 = .ok (.if_icmp .ge 39, 3) := by decide +kernel
theorem dX1_putInOrder_15 : decode cX1_putInOrder 15 = .ok (.aload_n 0, 1) := by decide +kernel
theorem dX1_putInOrder_16 : decode cX1_putInOrder 16 = .ok (.aload_n 0, 1) := by decide +kernel
theorem dX1_putInOrder_17 : decode cX1_putInOrder 17 = .ok (.getfield 15, 3) := by decide +kernel
theorem dX1_putInOrder_20 : decode cX1_putInOrder 20 = .ok (.iload_n 3, 1) := by decide +kernel
theorem dX1_putInOrder_21 : decode cX1_putInOrder 21 = .ok (.iconst 1, 1) := by decide +kernel
theorem dX1_putInOrder_22 : decode cX1_putInOrder 22 = .ok (.isub, 1) := by decide +kernel
theorem dX1_putInOrder_23 : decode cX1_putInOrder 23 = .ok (.iaload, 1) := by decide +kernel
theorem dX1_putInOrder_24 : decode cX1_putInOrder 24 = .ok (.iload_n 2, 1) := by decide +kernel
theorem dX1_putInOrder_25 : decode cX1_putInOrder 25 = .ok (.invokevirtual 89, 3) := by decide +kernel
theorem dX1_putInOrder_28 : decode cX1_putInOrder 28 = .ok (.ifCond .eq 23, 3) := by decide +kernel
theorem dX1_putInOrder_31 : decode cX1_putInOrder 31 = .ok (.aload_n 0, 1) := by decide +kernel
theorem dX1_putInOrder_32 : decode cX1_putInOrder 32 = .ok (.getfield 15, 3) := by decide +kernel
theorem dX1_putInOrder_35 : decode cX1_putInOrder 35 = .ok (.iload_n 3, 1) := by decide +kernel
theorem dX1_putInOrder_36 : decode cX1_putInOrder 36 = .ok (.aload_n 0, 1) := by decide +kernel
theorem dX1_putInOrder_37 : decode cX1_putInOrder 37 = .ok (.getfield 15, 3) := by decide +kernel
theorem dX1_putInOrder_40 : decode cX1_putInOrder 40 = .ok (.iload_n 3, 1) := by decide +kernel
theorem dX1_putInOrder_41 : decode cX1_putInOrder 41 = .ok (.iconst 1, 1) := by decide +kernel
theorem dX1_putInOrder_42 : decode cX1_putInOrder 42 = .ok (.isub, 1) := by decide +kernel
theorem dX1_putInOrder_43 : decode cX1_putInOrder 43 = .ok (.iaload, 1) := by decide +kernel
theorem dX1_putInOrder_44 : decode cX1_putInOrder 44 = .ok (.iastore, 1) := by decide +kernel
theorem dX1_putInOrder_45 : decode cX1_putInOrder 45 = .ok (.iinc 3 (-1), 3) := by decide +kernel
theorem dX1_putInOrder_48 : decode cX1_putInOrder 48 = .ok (.goto (-46), 3) := by decide +kernel
theorem dX1_putInOrder_51 : decode cX1_putInOrder 51 = .ok (.iload_n 3, 1) := by decide +kernel
theorem dX1_putInOrder_52 : decode cX1_putInOrder 52 = .ok (.ifCond .lt 19, 3) := by decide +kernel
theorem dX1_putInOrder_55 : decode cX1_putInOrder 55 = .ok (.iload_n 3, 1) := by decide +kernel
theorem dX1_putInOrder_56 : decode cX1_putInOrder 56 = .ok (.aload_n 0, 1) := by decide +kernel
theorem dX1_putInOrder_57 : decode cX1_putInOrder 57 = .ok (.getfield 15, 3) := by decide +kernel
theorem dX1_putInOrder_60 : decode cX1_putInOrder 60 = .ok (.arraylength, 1) := by decide +kernel
theorem dX1_putInOrder_61 : decode cX1_putInOrder 61 = .ok (.if_icmp .ge 10, 3) := by decide +kernel
theorem dX1_putInOrder_64 : decode cX1_putInOrder 64 = .ok (.aload_n 0, 1) := by decide +kernel
theorem dX1_putInOrder_65 : decode cX1_putInOrder 65 = .ok (.getfield 15, 3) := by decide +kernel
theorem dX1_putInOrder_68 : decode cX1_putInOrder 68 = .ok (.iload_n 3, 1) := by decide +kernel
theorem dX1_putInOrder_69 : decode cX1_putInOrder 69 = .ok (.iload_n 1, 1) := by decide +kernel
theorem dX1_putInOrder_70 : decode cX1_putInOrder 70 = .ok (.iastore, 1) := by decide +kernel
theorem dX1_putInOrder_71 : decode cX1_putInOrder 71 = .ok (.return_, 1) := by decide +kernel
theorem dX1_isSeawardsOf_0 : decode cX1_isSeawardsOf 0 = .ok (.aload_n 0, 1) := by decide +kernel
theorem dX1_isSeawardsOf_1 : decode cX1_isSeawardsOf 1 = .ok (.iload_n 1, 1) := by decide +kernel
theorem dX1_isSeawardsOf_2 : decode cX1_isSeawardsOf 2 = .ok (.invokevirtual 43, 3) := by decide +kernel
end
section
theorem dX1_isSeawardsOf_5 : decode cX1_isSeawardsOf 5 = .ok (.astore_n 3, 1) := by decide +kernel
theorem dX1_isSeawardsOf_6 : decode cX1_isSeawardsOf 6 = .ok (.aload_n 3, 1) := by decide +kernel
theorem dX1_isSeawardsOf_7 : decode cX1_isSeawardsOf 7 = .ok (.ifnull 15, 3) := by decide +kernel
theorem dX1_isSeawardsOf_10 : decode cX1_isSeawardsOf 10 = .ok (.aload_n 3, 1) := by decide +kernel
theorem dX1_isSeawardsOf_11 : decode cX1_isSeawardsOf 11 = .ok (.getfield 93, 3) := by decide +kernel
theorem dX1_isSeawardsOf_14 : decode cX1_isSeawardsOf 14 = .ok (.iload_n 2, 1) := by decide +kernel
theorem dX1_isSeawardsOf_15 : decode cX1_isSeawardsOf 15 = .ok (.if_icmp .ge 7, 3) := by decide +kernel
theorem dX1_isSeawardsOf_18 : decode cX1_isSeawardsOf 18 = .ok (.iconst 1, 1) := by decide +kernel
theorem dX1_isSeawardsOf_19 : decode cX1_isSeawardsOf 19 = .ok (.goto 4, 3) := by decide +kernel
theorem dX1_isSeawardsOf_22 : decode cX1_isSeawardsOf 22 = .ok (.iconst 0, 1) := by decide +kernel
theorem dX1_isSeawardsOf_23 : decode cX1_isSeawardsOf 23 = .ok (.ireturn, 1) := by decide +kernel
theorem dX1_addBarge_0 : decode cX1_addBarge 0 = .ok (.aload_n 0, 1) := by decide +kernel
theorem dX1_addBarge_1 : decode cX1_addBarge 1 = .ok (.getfield 51, 3) := by decide +kernel
theorem dX1_addBarge_4 : decode cX1_addBarge 4 = .ok (.istore_n 2, 1) := by decide +kernel
theorem dX1_addBarge_5 : decode cX1_addBarge 5 = .ok (.aload_n 0, 1) := by decide +kernel
theorem dX1_addBarge_6 : decode cX1_addBarge 6 = .ok (.dup, 1) := by decide +kernel
theorem dX1_addBarge_7 : decode cX1_addBarge 7 = .ok (.getfield 51, 3) := by decide +kernel
theorem dX1_addBarge_10 : decode cX1_addBarge 10 = .ok (.iconst 1, 1) := by decide +kernel
theorem dX1_addBarge_11 : decode cX1_addBarge 11 = .ok (.iadd, 1) := by decide +kernel
theorem dX1_addBarge_12 : decode cX1_addBarge 12 = .ok (.putfield 51, 3) := by decide +kernel
theorem dX1_addBarge_15 : decode cX1_addBarge 15 = .ok (.aload_n 0, 1) := by decide +kernel
theorem dX1_addBarge_16 : decode cX1_addBarge 16 = .ok (.iload_n 2, 1) := by decide +kernel
theorem dX1_addBarge_17 : decode cX1_addBarge 17 = .ok (.invokevirtual 54, 3) := by decide +kernel
theorem dX1_addBarge_20 : decode cX1_addBarge 20 = .ok (.astore_n 3, 1) := by decide +kernel
theorem dX1_addBarge_21 : decode cX1_addBarge 21 = .ok (.aload_n 3, 1) := by decide +kernel
theorem dX1_addBarge_22 : decode cX1_addBarge 22 = .ok (.ifnull 14, 3) := by decide +kernel
theorem dX1_addBarge_25 : decode cX1_addBarge 25 = .ok (.aload_n 3, 1) := by decide +kernel
theorem dX1_addBarge_26 : decode cX1_addBarge 26 = .ok (.aload_n 0, 1) := by decide +kernel
theorem dX1_addBarge_27 : decode cX1_addBarge 27 = .ok (.getfield 65, 3) := by decide +kernel
theorem dX1_addBarge_30 : decode cX1_addBarge 30 = .ok (.iload_n 2, 1) := by decide +kernel
theorem dX1_addBarge_31 : decode cX1_addBarge 31 = .ok (.iadd, 1) := by decide +kernel
theorem dX1_addBarge_32 : decode cX1_addBarge 32 = .ok (.iload_n 1, 1) := by decide +kernel
theorem dX1_addBarge_33 : decode cX1_addBarge 33 = .ok (.invokevirtual 96, 3) := by decide +kernel
theorem dX1_addBarge_36 : decode cX1_addBarge 36 = .ok (.iload_n 2, 1) := by decide +kernel
theorem dX1_addBarge_37 : decode cX1_addBarge 37 = .ok (.ireturn, 1) := by decide +kernel
theorem dX1_isUnderWay_0 : decode cX1_isUnderWay 0 = .ok (.iconst 0, 1) := by decide +kernel
theorem dX1_isUnderWay_1 : decode cX1_isUnderWay 1 = .ok (.istore_n 2, 1) := by decide +kernel
theorem dX1_isUnderWay_2 : decode cX1_isUnderWay 2 = .ok (.iload_n 2, 1) := by decide +kernel
theorem dX1_isUnderWay_3 : decode cX1_isUnderWay 3 = .ok (.aload_n 0, 1) := by decide +kernel
theorem dX1_isUnderWay_4 : decode cX1_isUnderWay 4 = .ok (.getfield 51, 3) := by decide +kernel
theorem dX1_isUnderWay_7 : decode cX1_isUnderWay 7 = .ok (.if_icmp .ge 29, 3) := by decide +kernel
theorem dX1_isUnderWay_10 : decode cX1_isUnderWay 10 = .ok (.aload_n 0, 1) := by decide +kernel
theorem dX1_isUnderWay_11 : decode cX1_isUnderWay 11 = .ok (.iload_n 2, 1) := by decide +kernel
theorem dX1_isUnderWay_12 : decode cX1_isUnderWay 12 = .ok (.invokevirtual 54, 3) := by decide +kernel
theorem dX1_isUnderWay_15 : decode cX1_isUnderWay 15 = .ok (.astore_n 3, 1) := by decide +kernel
theorem dX1_isUnderWay_16 : decode cX1_isUnderWay 16 = .ok (.aload_n 3, 1) := by decide +kernel
theorem dX1_isUnderWay_17 : decode cX1_isUnderWay 17 = .ok (.ifnull 13, 3) := by decide +kernel
theorem dX1_isUnderWay_20 : decode cX1_isUnderWay 20 = .ok (.aload_n 3, 1) := by decide +kernel
theorem dX1_isUnderWay_21 : decode cX1_isUnderWay 21 = .ok (.getfield 98, 3) := by decide +kernel
theorem dX1_isUnderWay_24 : decode cX1_isUnderWay 24 = .ok (.iload_n 1, 1) := by decide +kernel
theorem dX1_isUnderWay_25 : decode cX1_isUnderWay 25 = .ok (.if_icmp .ne 5, 3) := by decide +kernel
theorem dX1_isUnderWay_28 : decode cX1_isUnderWay 28 = .ok (.iconst 1, 1) := by decide +kernel
theorem dX1_isUnderWay_29 : decode cX1_isUnderWay 29 = .ok (.ireturn, 1) := by decide +kernel
theorem dX1_isUnderWay_30 : decode cX1_isUnderWay 30 = .ok (.iinc 2 1, 3) := by decide +kernel
theorem dX1_isUnderWay_33 : decode cX1_isUnderWay 33 = .ok (.goto (-31), 3) := by decide +kernel
theorem dX1_isUnderWay_36 : decode cX1_isUnderWay 36 = .ok (.iconst 0, 1) := by decide +kernel
theorem dX1_isUnderWay_37 : decode cX1_isUnderWay 37 = .ok (.ireturn, 1) := by decide +kernel
theorem dX1_moon_0 : decode cX1_moon 0 = .ok (.aload_n 0, 1) := by decide +kernel
theorem dX1_moon_1 : decode cX1_moon 1 = .ok (.getfield 62, 3) := by decide +kernel
theorem dX1_moon_4 : decode cX1_moon 4 = .ok (.bipush 28, 2) := by decide +kernel
theorem dX1_moon_6 : decode cX1_moon 6 = .ok (.invokestatic 101, 3) := by decide +kernel
theorem dX1_moon_9 : decode cX1_moon 9 = .ok (.istore_n 1, 1) := by decide +kernel
theorem dX1_moon_10 : decode cX1_moon 10 = .ok (.iload_n 1, 1) := by decide +kernel
theorem dX1_moon_11 : decode cX1_moon 11 = .ok (.iconst 3, 1) := by decide +kernel
theorem dX1_moon_12 : decode cX1_moon 12 = .ok (.if_icmp .le 9, 3) := by decide +kernel
theorem dX1_moon_15 : decode cX1_moon 15 = .ok (.iload_n 1, 1) := by decide +kernel
theorem dX1_moon_16 : decode cX1_moon 16 = .ok (.bipush 25, 2) := by decide +kernel
theorem dX1_moon_18 : decode cX1_moon 18 = .ok (.if_icmp .lt 5, 3) := by decide +kernel
theorem dX1_moon_21 : decode cX1_moon 21 = .ok (.iconst 0, 1) := by decide +kernel
theorem dX1_moon_22 : decode cX1_moon 22 = .ok (.ireturn, 1) := by decide +kernel
theorem dX1_moon_23 : decode cX1_moon 23 = .ok (.iload_n 1, 1) := by decide +kernel
theorem dX1_moon_24 : decode cX1_moon 24 = .ok (.bipush 9, 2) := by decide +kernel
theorem dX1_moon_26 : decode cX1_moon 26 = .ok (.if_icmp .le 9, 3) := by decide +kernel
theorem dX1_moon_29 : decode cX1_moon 29 = .ok (.iload_n 1, 1) := by decide +kernel
theorem dX1_moon_30 : decode cX1_moon 30 = .ok (.bipush 19, 2) := by decide +kernel
theorem dX1_moon_32 : decode cX1_moon 32 = .ok (.if_icmp .lt 7, 3) := by decide +kernel
theorem dX1_moon_35 : decode cX1_moon 35 = .ok (.iconst 1, 1) := by decide +kernel
theorem dX1_moon_36 : decode cX1_moon 36 = .ok (.goto 4, 3) := by decide +kernel
theorem dX1_moon_39 : decode cX1_moon 39 = .ok (.iconst 2, 1) := by decide +kernel
theorem dX1_moon_40 : decode cX1_moon 40 = .ok (.ireturn, 1) := by decide +kernel
theorem dX1_run_0 : decode cX1_run 0 = .ok (.aload_n 0, 1) := by decide +kernel
theorem dX1_run_1 : decode cX1_run 1 = .ok (.aload_n 0, 1) := by decide +kernel
theorem dX1_run_2 : decode cX1_run 2 = .ok (.getfield 62, 3) := by decide +kernel
theorem dX1_run_5 : decode cX1_run 5 = .ok (.bipush 7, 2) := by decide +kernel
theorem dX1_run_7 : decode cX1_run 7 = .ok (.invokestatic 101, 3) := by decide +kernel
theorem dX1_run_10 : decode cX1_run 10 = .ok (.invokevirtual 32, 3) := by decide +kernel
theorem dX1_run_13 : decode cX1_run 13 = .ok (.istore_n 1, 1) := by decide +kernel
theorem dX1_run_14 : decode cX1_run 14 = .ok (.aload_n 0, 1) := by decide +kernel
theorem dX1_run_15 : decode cX1_run 15 = .ok (.invokevirtual 107, 3) := by decide +kernel
theorem dX1_run_18 : decode cX1_run 18 = .ok (.istore_n 2, 1) := by decide +kernel
theorem dX1_run_19 : decode cX1_run 19 = .ok (.iload_n 2, 1) := by decide +kernel
theorem dX1_run_20 : decode cX1_run 20 = .ok (.ifCond .ne 7, 3) := by decide +kernel
theorem dX1_run_23 : decode cX1_run 23 = .ok (.iconst 3, 1) := by decide +kernel
theorem dX1_run_24 : decode cX1_run 24 = .ok (.iload_n 1, 1) := by decide +kernel
theorem dX1_run_25 : decode cX1_run 25 = .ok (.imul, 1) := by decide +kernel
theorem dX1_run_26 : decode cX1_run 26 = .ok (.ireturn, 1) := by decide +kernel
theorem dX1_run_27 : decode cX1_run 27 = .ok (.iload_n 2, 1) := by decide +kernel
theorem dX1_run_28 : decode cX1_run 28 = .ok (.iconst 1, 1) := by decide +kernel
theorem dX1_run_29 : decode cX1_run 29 = .ok (.if_icmp .ne 9, 3) := by decide +kernel
theorem dX1_run_32 : decode cX1_run 32 = .ok (.iconst 2, 1) := by decide +kernel
theorem dX1_run_33 : decode cX1_run 33 = .ok (.iload_n 1, 1) := by decide +kernel
theorem dX1_run_34 : decode cX1_run 34 = .ok (.imul, 1) := by decide +kernel
theorem dX1_run_35 : decode cX1_run 35 = .ok (.goto 4, 3) := by decide +kernel
theorem dX1_run_38 : decode cX1_run 38 = .ok (.iload_n 1, 1) := by decide +kernel
theorem dX1_run_39 : decode cX1_run 39 = .ok (.ireturn, 1) := by decide +kernel
theorem dX1_fact_0 : decode cX1_fact 0 = .ok (.iload_n 1, 1) := by decide +kernel
theorem dX1_fact_1 : decode cX1_fact 1 = .ok (.tableswitch 96 0 8 #[51, 56, 61, 66, 71, 76, 81, 86, 91], 51) := by decide +kernel
theorem dX1_fact_52 : decode cX1_fact 52 = .ok (.aload_n 0, 1) := by decide +kernel
theorem dX1_fact_53 : decode cX1_fact 53 = .ok (.getfield 62, 3) := by decide +kernel
theorem dX1_fact_56 : decode cX1_fact 56 = .ok (.ireturn, 1) := by decide +kernel
theorem dX1_fact_57 : decode cX1_fact 57 = .ok (.aload_n 0, 1) := by decide +kernel
theorem dX1_fact_58 : decode cX1_fact 58 = .ok (.invokevirtual 107, 3) := by decide +kernel
theorem dX1_fact_61 : decode cX1_fact 61 = .ok (.ireturn, 1) := by decide +kernel
theorem dX1_fact_62 : decode cX1_fact 62 = .ok (.aload_n 0, 1) := by decide +kernel
theorem dX1_fact_63 : decode cX1_fact 63 = .ok (.invokevirtual 111, 3) := by decide +kernel
theorem dX1_fact_66 : decode cX1_fact 66 = .ok (.ireturn, 1) := by decide +kernel
theorem dX1_fact_67 : decode cX1_fact 67 = .ok (.aload_n 0, 1) := by decide +kernel
theorem dX1_fact_68 : decode cX1_fact 68 = .ok (.getfield 39, 3) := by decide +kernel
theorem dX1_fact_71 : decode cX1_fact 71 = .ok (.ireturn, 1) := by decide +kernel
theorem dX1_fact_72 : decode cX1_fact 72 = .ok (.aload_n 0, 1) := by decide +kernel
theorem dX1_fact_73 : decode cX1_fact 73 = .ok (.invokevirtual 114, 3) := by decide +kernel
theorem dX1_fact_76 : decode cX1_fact 76 = .ok (.ireturn, 1) := by decide +kernel
theorem dX1_fact_77 : decode cX1_fact 77 = .ok (.aload_n 0, 1) := by decide +kernel
theorem dX1_fact_78 : decode cX1_fact 78 = .ok (.getfield 51, 3) := by decide +kernel
theorem dX1_fact_81 : decode cX1_fact 81 = .ok (.ireturn, 1) := by decide +kernel
theorem dX1_fact_82 : decode cX1_fact 82 = .ok (.aload_n 0, 1) := by decide +kernel
theorem dX1_fact_83 : decode cX1_fact 83 = .ok (.getfield 65, 3) := by decide +kernel
theorem dX1_fact_86 : decode cX1_fact 86 = .ok (.ireturn, 1) := by decide +kernel
theorem dX1_fact_87 : decode cX1_fact 87 = .ok (.aload_n 0, 1) := by decide +kernel
theorem dX1_fact_88 : decode cX1_fact 88 = .ok (.getfield 68, 3) := by decide +kernel
theorem dX1_fact_91 : decode cX1_fact 91 = .ok (.ireturn, 1) := by decide +kernel
theorem dX1_fact_92 : decode cX1_fact 92 = .ok (.aload_n 0, 1) := by decide +kernel
theorem dX1_fact_93 : decode cX1_fact 93 = .ok (.getfield 71, 3) := by decide +kernel
theorem dX1_fact_96 : decode cX1_fact 96 = .ok (.ireturn, 1) := by decide +kernel
theorem dX1_fact_97 : decode cX1_fact 97 = .ok (.aload_n 0, 1) := by decide +kernel
theorem dX1_fact_98 : decode cX1_fact 98 = .ok (.invokevirtual 117, 3) := by decide +kernel
theorem dX1_fact_101 : decode cX1_fact 101 = .ok (.ireturn, 1) := by decide +kernel
theorem dX1_bargeFact_0 : decode cX1_bargeFact 0 = .ok (.iload_n 2, 1) := by decide +kernel
theorem dX1_bargeFact_1 : decode cX1_bargeFact 1 = .ok (.tableswitch 42 0 2 #[27, 32, 37], 27) := by decide +kernel
theorem dX1_bargeFact_28 : decode cX1_bargeFact 28 = .ok (.aload_n 1, 1) := by decide +kernel
theorem dX1_bargeFact_29 : decode cX1_bargeFact 29 = .ok (.getfield 120, 3) := by decide +kernel
theorem dX1_bargeFact_32 : decode cX1_bargeFact 32 = .ok (.ireturn, 1) := by decide +kernel
theorem dX1_bargeFact_33 : decode cX1_bargeFact 33 = .ok (.aload_n 1, 1) := by decide +kernel
theorem dX1_bargeFact_34 : decode cX1_bargeFact 34 = .ok (.getfield 123, 3) := by decide +kernel
theorem dX1_bargeFact_37 : decode cX1_bargeFact 37 = .ok (.ireturn, 1) := by decide +kernel
theorem dX1_bargeFact_38 : decode cX1_bargeFact 38 = .ok (.aload_n 1, 1) := by decide +kernel
theorem dX1_bargeFact_39 : decode cX1_bargeFact 39 = .ok (.getfield 124, 3) := by decide +kernel
theorem dX1_bargeFact_42 : decode cX1_bargeFact 42 = .ok (.ireturn, 1) := by decide +kernel
theorem dX1_bargeFact_43 : decode cX1_bargeFact 43 = .ok (.aload_n 0, 1) := by decide +kernel
theorem dX1_bargeFact_44 : decode cX1_bargeFact 44 = .ok (.aload_n 1, 1) := by decide +kernel
theorem dX1_bargeFact_45 : decode cX1_bargeFact 45 = .ok (.invokevirtual 127, 3) := by decide +kernel
theorem dX1_bargeFact_48 : decode cX1_bargeFact 48 = .ok (.ireturn, 1) := by decide +kernel
theorem dX1_heldWeirs_0 : decode cX1_heldWeirs 0 = .ok (.iconst 0, 1) := by decide +kernel
theorem dX1_heldWeirs_1 : decode cX1_heldWeirs 1 = .ok (.istore_n 1, 1) := by decide +kernel
theorem dX1_heldWeirs_2 : decode cX1_heldWeirs 2 = .ok (.iconst 0, 1) := by decide +kernel
theorem dX1_heldWeirs_3 : decode cX1_heldWeirs 3 = .ok (.istore_n 2, 1) := by decide +kernel
theorem dX1_heldWeirs_4 : decode cX1_heldWeirs 4 = .ok (.iload_n 2, 1) := by decide +kernel
theorem dX1_heldWeirs_5 : decode cX1_heldWeirs 5 = .ok (.aload_n 0, 1) := by decide +kernel
theorem dX1_heldWeirs_6 : decode cX1_heldWeirs 6 = .ok (.getfield 39, 3) := by decide +kernel
theorem dX1_heldWeirs_9 : decode cX1_heldWeirs 9 = .ok (.if_icmp .ge 29, 3) := by decide +kernel
theorem dX1_heldWeirs_12 : decode cX1_heldWeirs 12 = .ok (.aload_n 0, 1) := by decide +kernel
theorem dX1_heldWeirs_13 : decode cX1_heldWeirs 13 = .ok (.iload_n 2, 1) := by decide +kernel
theorem dX1_heldWeirs_14 : decode cX1_heldWeirs 14 = .ok (.invokevirtual 43, 3) := by decide +kernel
theorem dX1_heldWeirs_17 : decode cX1_heldWeirs 17 = .ok (.astore_n 3, 1) := by decide +kernel
theorem dX1_heldWeirs_18 : decode cX1_heldWeirs 18 = .ok (.aload_n 3, 1) := by decide +kernel
theorem dX1_heldWeirs_19 : decode cX1_heldWeirs 19 = .ok (.ifnull 13, 3) := by decide +kernel
theorem dX1_heldWeirs_22 : decode cX1_heldWeirs 22 = .ok (.aload_n 3, 1) := by decide +kernel
theorem dX1_heldWeirs_23 : decode cX1_heldWeirs 23 = .ok (.invokevirtual 131, 3) := by decide +kernel
theorem dX1_heldWeirs_26 : decode cX1_heldWeirs 26 = .ok (.ifCond .eq 6, 3) := by decide +kernel
theorem dX1_heldWeirs_29 : decode cX1_heldWeirs 29 = .ok (.iinc 1 1, 3) := by decide +kernel
theorem dX1_heldWeirs_32 : decode cX1_heldWeirs 32 = .ok (.iinc 2 1, 3) := by decide +kernel
theorem dX1_heldWeirs_35 : decode cX1_heldWeirs 35 = .ok (.goto (-31), 3) := by decide +kernel
theorem dX1_heldWeirs_38 : decode cX1_heldWeirs 38 = .ok (.iload_n 1, 1) := by decide +kernel
theorem dX1_heldWeirs_39 : decode cX1_heldWeirs 39 = .ok (.ireturn, 1) := by decide +kernel
theorem dX1_heldWattle_0 : decode cX1_heldWattle 0 = .ok (.iconst 0, 1) := by decide +kernel
theorem dX1_heldWattle_1 : decode cX1_heldWattle 1 = .ok (.istore_n 1, 1) := by decide +kernel
theorem dX1_heldWattle_2 : decode cX1_heldWattle 2 = .ok (.iconst 0, 1) := by decide +kernel
theorem dX1_heldWattle_3 : decode cX1_heldWattle 3 = .ok (.istore_n 2, 1) := by decide +kernel
theorem dX1_heldWattle_4 : decode cX1_heldWattle 4 = .ok (.iload_n 2, 1) := by decide +kernel
theorem dX1_heldWattle_5 : decode cX1_heldWattle 5 = .ok (.aload_n 0, 1) := by decide +kernel
theorem dX1_heldWattle_6 : decode cX1_heldWattle 6 = .ok (.getfield 39, 3) := by decide +kernel
theorem dX1_heldWattle_9 : decode cX1_heldWattle 9 = .ok (.if_icmp .ge 33, 3) := by decide +kernel
theorem dX1_heldWattle_12 : decode cX1_heldWattle 12 = .ok (.aload_n 0, 1) := by decide +kernel
theorem dX1_heldWattle_13 : decode cX1_heldWattle 13 = .ok (.iload_n 2, 1) := by decide +kernel
theorem dX1_heldWattle_14 : decode cX1_heldWattle 14 = .ok (.invokevirtual 43, 3) := by decide +kernel
theorem dX1_heldWattle_17 : decode cX1_heldWattle 17 = .ok (.astore_n 3, 1) := by decide +kernel
theorem dX1_heldWattle_18 : decode cX1_heldWattle 18 = .ok (.aload_n 3, 1) := by decide +kernel
theorem dX1_heldWattle_19 : decode cX1_heldWattle 19 = .ok (.ifnull 17, 3) := by decide +kernel
theorem dX1_heldWattle_22 : decode cX1_heldWattle 22 = .ok (.aload_n 3, 1) := by decide +kernel
theorem dX1_heldWattle_23 : decode cX1_heldWattle 23 = .ok (.invokevirtual 131, 3) := by decide +kernel
theorem dX1_heldWattle_26 : decode cX1_heldWattle 26 = .ok (.ifCond .eq 10, 3) := by decide +kernel
theorem dX1_heldWattle_29 : decode cX1_heldWattle 29 = .ok (.iload_n 1, 1) := by decide +kernel
theorem dX1_heldWattle_30 : decode cX1_heldWattle 30 = .ok (.aload_n 3, 1) := by decide +kernel
theorem dX1_heldWattle_31 : decode cX1_heldWattle 31 = .ok (.getfield 135, 3) := by decide +kernel
theorem dX1_heldWattle_34 : decode cX1_heldWattle 34 = .ok (.iadd, 1) := by decide +kernel
theorem dX1_heldWattle_35 : decode cX1_heldWattle 35 = .ok (.istore_n 1, 1) := by decide +kernel
theorem dX1_heldWattle_36 : decode cX1_heldWattle 36 = .ok (.iinc 2 1, 3) := by decide +kernel
theorem dX1_heldWattle_39 : decode cX1_heldWattle 39 = .ok (.goto (-35), 3) := by decide +kernel
theorem dX1_heldWattle_42 : decode cX1_heldWattle 42 = .ok (.iload_n 1, 1) := by decide +kernel
theorem dX1_heldWattle_43 : decode cX1_heldWattle 43 = .ok (.ireturn, 1) := by decide +kernel
theorem dX1_allEels_0 : decode cX1_allEels 0 = .ok (.iconst 0, 1) := by decide +kernel
theorem dX1_allEels_1 : decode cX1_allEels 1 = .ok (.istore_n 1, 1) := by decide +kernel
theorem dX1_allEels_2 : decode cX1_allEels 2 = .ok (.iconst 0, 1) := by decide +kernel
theorem dX1_allEels_3 : decode cX1_allEels 3 = .ok (.istore_n 2, 1) := by decide +kernel
theorem dX1_allEels_4 : decode cX1_allEels 4 = .ok (.iload_n 2, 1) := by decide +kernel
theorem dX1_allEels_5 : decode cX1_allEels 5 = .ok (.aload_n 0, 1) := by decide +kernel
theorem dX1_allEels_6 : decode cX1_allEels 6 = .ok (.getfield 39, 3) := by decide +kernel
theorem dX1_allEels_9 : decode cX1_allEels 9 = .ok (.if_icmp .ge 26, 3) := by decide +kernel
theorem dX1_allEels_12 : decode cX1_allEels 12 = .ok (.aload_n 0, 1) := by decide +kernel
theorem dX1_allEels_13 : decode cX1_allEels 13 = .ok (.iload_n 2, 1) := by decide +kernel
theorem dX1_allEels_14 : decode cX1_allEels 14 = .ok (.invokevirtual 43, 3) := by decide +kernel
theorem dX1_allEels_17 : decode cX1_allEels 17 = .ok (.astore_n 3, 1) := by decide +kernel
theorem dX1_allEels_18 : decode cX1_allEels 18 = .ok (.aload_n 3, 1) := by decide +kernel
theorem dX1_allEels_19 : decode cX1_allEels 19 = .ok (.ifnull 10, 3) := by decide +kernel
theorem dX1_allEels_22 : decode cX1_allEels 22 = .ok (.iload_n 1, 1) := by decide +kernel
theorem dX1_allEels_23 : decode cX1_allEels 23 = .ok (.aload_n 3, 1) := by decide +kernel
theorem dX1_allEels_24 : decode cX1_allEels 24 = .ok (.getfield 138, 3) := by decide +kernel
theorem dX1_allEels_27 : decode cX1_allEels 27 = .ok (.iadd, 1) := by decide +kernel
theorem dX1_allEels_28 : decode cX1_allEels 28 = .ok (.istore_n 1, 1) := by decide +kernel
theorem dX1_allEels_29 : decode cX1_allEels 29 = .ok (.iinc 2 1, 3) := by decide +kernel
theorem dX1_allEels_32 : decode cX1_allEels 32 = .ok (.goto (-28), 3) := by decide +kernel
theorem dX1_allEels_35 : decode cX1_allEels 35 = .ok (.iload_n 1, 1) := by decide +kernel
theorem dX1_allEels_36 : decode cX1_allEels 36 = .ok (.ireturn, 1) := by decide +kernel
theorem dX1_weirsInWay_0 : decode cX1_weirsInWay 0 = .ok (.iconst 0, 1) := by decide +kernel
theorem dX1_weirsInWay_1 : decode cX1_weirsInWay 1 = .ok (.istore_n 2, 1) := by decide +kernel
theorem dX1_weirsInWay_2 : decode cX1_weirsInWay 2 = .ok (.iconst 0, 1) := by decide +kernel
theorem dX1_weirsInWay_3 : decode cX1_weirsInWay 3 = .ok (.istore_n 3, 1) := by decide +kernel
theorem dX1_weirsInWay_4 : decode cX1_weirsInWay 4 = .ok (.iload_n 3, 1) := by decide +kernel
theorem dX1_weirsInWay_5 : decode cX1_weirsInWay 5 = .ok (.aload_n 0, 1) := by decide +kernel
theorem dX1_weirsInWay_6 : decode cX1_weirsInWay 6 = .ok (.getfield 39, 3) := by decide +kernel
theorem dX1_weirsInWay_9 : decode cX1_weirsInWay 9 = .ok (.if_icmp .ge 33, 3) := by decide +kernel
theorem dX1_weirsInWay_12 : decode cX1_weirsInWay 12 = .ok (.aload_n 0, 1) := by decide +kernel
theorem dX1_weirsInWay_13 : decode cX1_weirsInWay 13 = .ok (.iload_n 3, 1) := by decide +kernel
theorem dX1_weirsInWay_14 : decode cX1_weirsInWay 14 = .ok (.invokevirtual 43, 3) := by decide +kernel
theorem dX1_weirsInWay_17 : decode cX1_weirsInWay 17 = .ok (.astore 4, 2) := by decide +kernel
theorem dX1_weirsInWay_19 : decode cX1_weirsInWay 19 = .ok (.aload 4, 2) := by decide +kernel
theorem dX1_weirsInWay_21 : decode cX1_weirsInWay 21 = .ok (.ifnull 15, 3) := by decide +kernel
theorem dX1_weirsInWay_24 : decode cX1_weirsInWay 24 = .ok (.aload 4, 2) := by decide +kernel
theorem dX1_weirsInWay_26 : decode cX1_weirsInWay 26 = .ok (.iload_n 1, 1) := by decide +kernel
theorem dX1_weirsInWay_27 : decode cX1_weirsInWay 27 = .ok (.invokevirtual 141, 3) := by decide +kernel
theorem dX1_weirsInWay_30 : decode cX1_weirsInWay 30 = .ok (.ifCond .eq 6, 3) := by decide +kernel
theorem dX1_weirsInWay_33 : decode cX1_weirsInWay 33 = .ok (.iinc 2 1, 3) := by decide +kernel
theorem dX1_weirsInWay_36 : decode cX1_weirsInWay 36 = .ok (.iinc 3 1, 3) := by decide +kernel
theorem dX1_weirsInWay_39 : decode cX1_weirsInWay 39 = .ok (.goto (-35), 3) := by decide +kernel
theorem dX1_weirsInWay_42 : decode cX1_weirsInWay 42 = .ok (.iload_n 2, 1) := by decide +kernel
theorem dX1_weirsInWay_43 : decode cX1_weirsInWay 43 = .ok (.ireturn, 1) := by decide +kernel
theorem dX1_richestHeld_0 : decode cX1_richestHeld 0 = .ok (.iconst (-1), 1) := by decide +kernel
theorem dX1_richestHeld_1 : decode cX1_richestHeld 1 = .ok (.istore_n 1, 1) := by decide +kernel
theorem dX1_richestHeld_2 : decode cX1_richestHeld 2 = .ok (.iconst 0, 1) := by decide +kernel
theorem dX1_richestHeld_3 : decode cX1_richestHeld 3 = .ok (.istore_n 2, 1) := by decide +kernel
theorem dX1_richestHeld_4 : decode cX1_richestHeld 4 = .ok (.iconst 0, 1) := by decide +kernel
theorem dX1_richestHeld_5 : decode cX1_richestHeld 5 = .ok (.istore_n 3, 1) := by decide +kernel
theorem dX1_richestHeld_6 : decode cX1_richestHeld 6 = .ok (.iload_n 3, 1) := by decide +kernel
theorem dX1_richestHeld_7 : decode cX1_richestHeld 7 = .ok (.aload_n 0, 1) := by decide +kernel
theorem dX1_richestHeld_8 : decode cX1_richestHeld 8 = .ok (.getfield 39, 3) := by decide +kernel
theorem dX1_richestHeld_11 : decode cX1_richestHeld 11 = .ok (.if_icmp .ge 51, 3) := by decide +kernel
theorem dX1_richestHeld_14 : decode cX1_richestHeld 14 = .ok (.aload_n 0, 1) := by decide +kernel
theorem dX1_richestHeld_15 : decode cX1_richestHeld 15 = .ok (.iload_n 3, 1) := by decide +kernel
theorem dX1_richestHeld_16 : decode cX1_richestHeld 16 = .ok (.invokevirtual 43, 3) := by decide +kernel
theorem dX1_richestHeld_19 : decode cX1_richestHeld 19 = .ok (.astore 4, 2) := by decide +kernel
theorem dX1_richestHeld_21 : decode cX1_richestHeld 21 = .ok (.aload 4, 2) := by decide +kernel
theorem dX1_richestHeld_23 : decode cX1_richestHeld 23 = .ok (.ifnull 33, 3) := by decide +kernel
theorem dX1_richestHeld_26 : decode cX1_richestHeld 26 = .ok (.aload 4, 2) := by decide +kernel
theorem dX1_richestHeld_28 : decode cX1_richestHeld 28 = .ok (.invokevirtual 131, 3) := by decide +kernel
theorem dX1_richestHeld_31 : decode cX1_richestHeld 31 = .ok (.ifCond .eq 25, 3) := by decide +kernel
theorem dX1_richestHeld_34 : decode cX1_richestHeld 34 = .ok (.iload_n 1, 1) := by decide +kernel
theorem dX1_richestHeld_35 : decode cX1_richestHeld 35 = .ok (.iconst (-1), 1) := by decide +kernel
theorem dX1_richestHeld_36 : decode cX1_richestHeld 36 = .ok (.if_icmp .eq 12, 3) := by decide +kernel
theorem dX1_richestHeld_39 : decode cX1_richestHeld 39 = .ok (.aload 4, 2) := by decide +kernel
theorem dX1_richestHeld_41 : decode cX1_richestHeld 41 = .ok (.getfield 145, 3) := by decide +kernel
theorem dX1_richestHeld_44 : decode cX1_richestHeld 44 = .ok (.iload_n 2, 1) := by decide +kernel
theorem dX1_richestHeld_45 : decode cX1_richestHeld 45 = .ok (.if_icmp .le 11, 3) := by decide +kernel
theorem dX1_richestHeld_48 : decode cX1_richestHeld 48 = .ok (.iload_n 3, 1) := by decide +kernel
theorem dX1_richestHeld_49 : decode cX1_richestHeld 49 = .ok (.istore_n 1, 1) := by decide +kernel
theorem dX1_richestHeld_50 : decode cX1_richestHeld 50 = .ok (.aload 4, 2) := by decide +kernel
theorem dX1_richestHeld_52 : decode cX1_richestHeld 52 = .ok (.getfield 145, 3) := by decide +kernel
theorem dX1_richestHeld_55 : decode cX1_richestHeld 55 = .ok (.istore_n 2, 1) := by decide +kernel
theorem dX1_richestHeld_56 : decode cX1_richestHeld 56 = .ok (.iinc 3 1, 3) := by decide +kernel
theorem dX1_richestHeld_59 : decode cX1_richestHeld 59 = .ok (.goto (-53), 3) := by decide +kernel
theorem dX1_richestHeld_62 : decode cX1_richestHeld 62 = .ok (.iload_n 1, 1) := by decide +kernel
theorem dX1_richestHeld_63 : decode cX1_richestHeld 63 = .ok (.ireturn, 1) := by decide +kernel
theorem dX1_nextInWay_0 : decode cX1_nextInWay 0 = .ok (.iconst (-1), 1) := by decide +kernel
theorem dX1_nextInWay_1 : decode cX1_nextInWay 1 = .ok (.istore_n 2, 1) := by decide +kernel
theorem dX1_nextInWay_2 : decode cX1_nextInWay 2 = .ok (.bipush 40, 2) := by decide +kernel
theorem dX1_nextInWay_4 : decode cX1_nextInWay 4 = .ok (.istore_n 3, 1) := by decide +kernel
theorem dX1_nextInWay_5 : decode cX1_nextInWay 5 = .ok (.iconst 0, 1) := by decide +kernel
theorem dX1_nextInWay_6 : decode cX1_nextInWay 6 = .ok (.istore 4, 2) := by decide +kernel
theorem dX1_nextInWay_8 : decode cX1_nextInWay 8 = .ok (.iload 4, 2) := by decide +kernel
theorem dX1_nextInWay_10 : decode cX1_nextInWay 10 = .ok (.aload_n 0, 1) := by decide +kernel
theorem dX1_nextInWay_11 : decode cX1_nextInWay 11 = .ok (.getfield 39, 3) := by decide +kernel
theorem dX1_nextInWay_14 : decode cX1_nextInWay 14 = .ok (.if_icmp .ge 64, 3) := by decide +kernel
theorem dX1_nextInWay_17 : decode cX1_nextInWay 17 = .ok (.aload_n 0, 1) := by decide +kernel
theorem dX1_nextInWay_18 : decode cX1_nextInWay 18 = .ok (.iload 4, 2) := by decide +kernel
theorem dX1_nextInWay_20 : decode cX1_nextInWay 20 = .ok (.invokevirtual 43, 3) := by decide +kernel
theorem dX1_nextInWay_23 : decode cX1_nextInWay 23 = .ok (.astore 5, 2) := by decide +kernel
theorem dX1_nextInWay_25 : decode cX1_nextInWay 25 = .ok (.aload 5, 2) := by decide +kernel
theorem dX1_nextInWay_27 : decode cX1_nextInWay 27 = .ok (.ifnull 45, 3) := by decide +kernel
theorem dX1_nextInWay_30 : decode cX1_nextInWay 30 = .ok (.aload 5, 2) := by decide +kernel
theorem dX1_nextInWay_32 : decode cX1_nextInWay 32 = .ok (.getfield 93, 3) := by decide +kernel
theorem dX1_nextInWay_35 : decode cX1_nextInWay 35 = .ok (.aload_n 1, 1) := by decide +kernel
theorem dX1_nextInWay_36 : decode cX1_nextInWay 36 = .ok (.getfield 123, 3) := by decide +kernel
theorem dX1_nextInWay_39 : decode cX1_nextInWay 39 = .ok (.if_icmp .le 33, 3) := by decide +kernel
theorem dX1_nextInWay_42 : decode cX1_nextInWay 42 = .ok (.aload 5, 2) := by decide +kernel
theorem dX1_nextInWay_44 : decode cX1_nextInWay 44 = .ok (.getfield 93, 3) := by decide +kernel
theorem dX1_nextInWay_47 : decode cX1_nextInWay 47 = .ok (.iload_n 3, 1) := by decide +kernel
theorem dX1_nextInWay_48 : decode cX1_nextInWay 48 = .ok (.if_icmp .ge 24, 3) := by decide +kernel
theorem dX1_nextInWay_51 : decode cX1_nextInWay 51 = .ok (.aload 5, 2) := by decide +kernel
theorem dX1_nextInWay_53 : decode cX1_nextInWay 53 = .ok (.aload_n 1, 1) := by decide +kernel
theorem dX1_nextInWay_54 : decode cX1_nextInWay 54 = .ok (.getfield 120, 3) := by decide +kernel
theorem dX1_nextInWay_57 : decode cX1_nextInWay 57 = .ok (.invokevirtual 141, 3) := by decide +kernel
theorem dX1_nextInWay_60 : decode cX1_nextInWay 60 = .ok (.ifCond .eq 12, 3) := by decide +kernel
theorem dX1_nextInWay_63 : decode cX1_nextInWay 63 = .ok (.iload 4, 2) := by decide +kernel
theorem dX1_nextInWay_65 : decode cX1_nextInWay 65 = .ok (.istore_n 2, 1) := by decide +kernel
theorem dX1_nextInWay_66 : decode cX1_nextInWay 66 = .ok (.aload 5, 2) := by decide +kernel
theorem dX1_nextInWay_68 : decode cX1_nextInWay 68 = .ok (.getfield 93, 3) := by decide +kernel
theorem dX1_nextInWay_71 : decode cX1_nextInWay 71 = .ok (.istore_n 3, 1) := by decide +kernel
theorem dX1_nextInWay_72 : decode cX1_nextInWay 72 = .ok (.iinc 4 1, 3) := by decide +kernel
theorem dX1_nextInWay_75 : decode cX1_nextInWay 75 = .ok (.goto (-67), 3) := by decide +kernel
theorem dX1_nextInWay_78 : decode cX1_nextInWay 78 = .ok (.iload_n 2, 1) := by decide +kernel
theorem dX1_nextInWay_79 : decode cX1_nextInWay 79 = .ok (.ireturn, 1) := by decide +kernel
theorem dX1_goThroughNights_0 : decode cX1_goThroughNights 0 = .ok (.iconst 0, 1) := by decide +kernel
theorem dX1_goThroughNights_1 : decode cX1_goThroughNights 1 = .ok (.istore_n 2, 1) := by decide +kernel
theorem dX1_goThroughNights_2 : decode cX1_goThroughNights 2 = .ok (.iload_n 2, 1) := by decide +kernel
theorem dX1_goThroughNights_3 : decode cX1_goThroughNights 3 = .ok (.iload_n 1, 1) := by decide +kernel
theorem dX1_goThroughNights_4 : decode cX1_goThroughNights 4 = .ok (.if_icmp .ge 53, 3) := by decide +kernel
theorem dX1_goThroughNights_7 : decode cX1_goThroughNights 7 = .ok (.aload_n 0, 1) := by decide +kernel
theorem dX1_goThroughNights_8 : decode cX1_goThroughNights 8 = .ok (.invokevirtual 148, 3) := by decide +kernel
theorem dX1_goThroughNights_11 : decode cX1_goThroughNights 11 = .ok (.aload_n 0, 1) := by decide +kernel
theorem dX1_goThroughNights_12 : decode cX1_goThroughNights 12 = .ok (.invokevirtual 151, 3) := by decide +kernel
theorem dX1_goThroughNights_15 : decode cX1_goThroughNights 15 = .ok (.aload_n 0, 1) := by decide +kernel
end
section
theorem dX1_goThroughNights_16 : decode cX1_goThroughNights 16 = .ok (.invokevirtual 154, 3) := by decide +kernel
theorem dX1_goThroughNights_19 : decode cX1_goThroughNights 19 = .ok (.aload_n 0, 1) := by decide +kernel
theorem dX1_goThroughNights_20 : decode cX1_goThroughNights 20 = .ok (.invokevirtual 157, 3) := by decide +kernel
theorem dX1_goThroughNights_23 : decode cX1_goThroughNights 23 = .ok (.aload_n 0, 1) := by decide +kernel
theorem dX1_goThroughNights_24 : decode cX1_goThroughNights 24 = .ok (.getfield 62, 3) := by decide +kernel
theorem dX1_goThroughNights_27 : decode cX1_goThroughNights 27 = .ok (.bipush 14, 2) := by decide +kernel
theorem dX1_goThroughNights_29 : decode cX1_goThroughNights 29 = .ok (.invokestatic 101, 3) := by decide +kernel
theorem dX1_goThroughNights_32 : decode cX1_goThroughNights 32 = .ok (.bipush 13, 2) := by decide +kernel
theorem dX1_goThroughNights_34 : decode cX1_goThroughNights 34 = .ok (.if_icmp .ne 7, 3) := by decide +kernel
theorem dX1_goThroughNights_37 : decode cX1_goThroughNights 37 = .ok (.aload_n 0, 1) := by decide +kernel
theorem dX1_goThroughNights_38 : decode cX1_goThroughNights 38 = .ok (.invokevirtual 160, 3) := by decide +kernel
theorem dX1_goThroughNights_41 : decode cX1_goThroughNights 41 = .ok (.aload_n 0, 1) := by decide +kernel
theorem dX1_goThroughNights_42 : decode cX1_goThroughNights 42 = .ok (.dup, 1) := by decide +kernel
theorem dX1_goThroughNights_43 : decode cX1_goThroughNights 43 = .ok (.getfield 62, 3) := by decide +kernel
theorem dX1_goThroughNights_46 : decode cX1_goThroughNights 46 = .ok (.iconst 1, 1) := by decide +kernel
theorem dX1_goThroughNights_47 : decode cX1_goThroughNights 47 = .ok (.iadd, 1) := by decide +kernel
theorem dX1_goThroughNights_48 : decode cX1_goThroughNights 48 = .ok (.putfield 62, 3) := by decide +kernel
theorem dX1_goThroughNights_51 : decode cX1_goThroughNights 51 = .ok (.iinc 2 1, 3) := by decide +kernel
theorem dX1_goThroughNights_54 : decode cX1_goThroughNights 54 = .ok (.goto (-52), 3) := by decide +kernel
theorem dX1_goThroughNights_57 : decode cX1_goThroughNights 57 = .ok (.return_, 1) := by decide +kernel
theorem dX1_catchEels_0 : decode cX1_catchEels 0 = .ok (.aload_n 0, 1) := by decide +kernel
theorem dX1_catchEels_1 : decode cX1_catchEels 1 = .ok (.invokevirtual 111, 3) := by decide +kernel
theorem dX1_catchEels_4 : decode cX1_catchEels 4 = .ok (.istore_n 1, 1) := by decide +kernel
theorem dX1_catchEels_5 : decode cX1_catchEels 5 = .ok (.iconst 0, 1) := by decide +kernel
theorem dX1_catchEels_6 : decode cX1_catchEels 6 = .ok (.istore_n 2, 1) := by decide +kernel
theorem dX1_catchEels_7 : decode cX1_catchEels 7 = .ok (.iload_n 2, 1) := by decide +kernel
theorem dX1_catchEels_8 : decode cX1_catchEels 8 = .ok (.aload_n 0, 1) := by decide +kernel
theorem dX1_catchEels_9 : decode cX1_catchEels 9 = .ok (.getfield 39, 3) := by decide +kernel
theorem dX1_catchEels_12 : decode cX1_catchEels 12 = .ok (.if_icmp .ge 38, 3) := by decide +kernel
theorem dX1_catchEels_15 : decode cX1_catchEels 15 = .ok (.aload_n 0, 1) := by decide +kernel
theorem dX1_catchEels_16 : decode cX1_catchEels 16 = .ok (.aload_n 0, 1) := by decide +kernel
theorem dX1_catchEels_17 : decode cX1_catchEels 17 = .ok (.iload_n 2, 1) := by decide +kernel
theorem dX1_catchEels_18 : decode cX1_catchEels 18 = .ok (.invokevirtual 36, 3) := by decide +kernel
theorem dX1_catchEels_21 : decode cX1_catchEels 21 = .ok (.invokevirtual 43, 3) := by decide +kernel
theorem dX1_catchEels_24 : decode cX1_catchEels 24 = .ok (.astore_n 3, 1) := by decide +kernel
theorem dX1_catchEels_25 : decode cX1_catchEels 25 = .ok (.aload_n 3, 1) := by decide +kernel
theorem dX1_catchEels_26 : decode cX1_catchEels 26 = .ok (.ifnull 18, 3) := by decide +kernel
theorem dX1_catchEels_29 : decode cX1_catchEels 29 = .ok (.aload_n 3, 1) := by decide +kernel
theorem dX1_catchEels_30 : decode cX1_catchEels 30 = .ok (.invokevirtual 163, 3) := by decide +kernel
theorem dX1_catchEels_33 : decode cX1_catchEels 33 = .ok (.ifCond .eq 11, 3) := by decide +kernel
theorem dX1_catchEels_36 : decode cX1_catchEels 36 = .ok (.iload_n 1, 1) := by decide +kernel
theorem dX1_catchEels_37 : decode cX1_catchEels 37 = .ok (.aload_n 3, 1) := by decide +kernel
theorem dX1_catchEels_38 : decode cX1_catchEels 38 = .ok (.iload_n 1, 1) := by decide +kernel
theorem dX1_catchEels_39 : decode cX1_catchEels 39 = .ok (.invokevirtual 166, 3) := by decide +kernel
theorem dX1_catchEels_42 : decode cX1_catchEels 42 = .ok (.isub, 1) := by decide +kernel
theorem dX1_catchEels_43 : decode cX1_catchEels 43 = .ok (.istore_n 1, 1) := by decide +kernel
theorem dX1_catchEels_44 : decode cX1_catchEels 44 = .ok (.iinc 2 1, 3) := by decide +kernel
theorem dX1_catchEels_47 : decode cX1_catchEels 47 = .ok (.goto (-40), 3) := by decide +kernel
theorem dX1_catchEels_50 : decode cX1_catchEels 50 = .ok (.return_, 1) := by decide +kernel
theorem dX1_moveBarges_0 : decode cX1_moveBarges 0 = .ok (.iconst 0, 1) := by decide +kernel
theorem dX1_moveBarges_1 : decode cX1_moveBarges 1 = .ok (.istore_n 1, 1) := by decide +kernel
theorem dX1_moveBarges_2 : decode cX1_moveBarges 2 = .ok (.iload_n 1, 1) := by decide +kernel
theorem dX1_moveBarges_3 : decode cX1_moveBarges 3 = .ok (.aload_n 0, 1) := by decide +kernel
theorem dX1_moveBarges_4 : decode cX1_moveBarges 4 = .ok (.getfield 51, 3) := by decide +kernel
theorem dX1_moveBarges_7 : decode cX1_moveBarges 7 = .ok (.if_icmp .ge 51, 3) := by decide +kernel
theorem dX1_moveBarges_10 : decode cX1_moveBarges 10 = .ok (.aload_n 0, 1) := by decide +kernel
theorem dX1_moveBarges_11 : decode cX1_moveBarges 11 = .ok (.iload_n 1, 1) := by decide +kernel
theorem dX1_moveBarges_12 : decode cX1_moveBarges 12 = .ok (.invokevirtual 54, 3) := by decide +kernel
theorem dX1_moveBarges_15 : decode cX1_moveBarges 15 = .ok (.astore_n 2, 1) := by decide +kernel
theorem dX1_moveBarges_16 : decode cX1_moveBarges 16 = .ok (.aload_n 2, 1) := by decide +kernel
theorem dX1_moveBarges_17 : decode cX1_moveBarges 17 = .ok (.ifnull 35, 3) := by decide +kernel
theorem dX1_moveBarges_20 : decode cX1_moveBarges 20 = .ok (.aload_n 0, 1) := by decide +kernel
theorem dX1_moveBarges_21 : decode cX1_moveBarges 21 = .ok (.aload_n 0, 1) := by decide +kernel
theorem dX1_moveBarges_22 : decode cX1_moveBarges 22 = .ok (.aload_n 2, 1) := by decide +kernel
theorem dX1_moveBarges_23 : decode cX1_moveBarges 23 = .ok (.invokevirtual 127, 3) := by decide +kernel
theorem dX1_moveBarges_26 : decode cX1_moveBarges 26 = .ok (.invokevirtual 43, 3) := by decide +kernel
theorem dX1_moveBarges_29 : decode cX1_moveBarges 29 = .ok (.astore_n 3, 1) := by decide +kernel
theorem dX1_moveBarges_30 : decode cX1_moveBarges 30 = .ok (.aload_n 2, 1) := by decide +kernel
theorem dX1_moveBarges_31 : decode cX1_moveBarges 31 = .ok (.aload_n 3, 1) := by decide +kernel
theorem dX1_moveBarges_32 : decode cX1_moveBarges 32 = .ok (.ifnonnull 8, 3) := by decide +kernel
theorem dX1_moveBarges_35 : decode cX1_moveBarges 35 = .ok (.bipush 39, 2) := by decide +kernel
theorem dX1_moveBarges_37 : decode cX1_moveBarges 37 = .ok (.goto 7, 3) := by decide +kernel
theorem dX1_moveBarges_40 : decode cX1_moveBarges 40 = .ok (.aload_n 3, 1) := by decide +kernel
theorem dX1_moveBarges_41 : decode cX1_moveBarges 41 = .ok (.getfield 93, 3) := by decide +kernel
theorem dX1_moveBarges_44 : decode cX1_moveBarges 44 = .ok (.invokevirtual 169, 3) := by decide +kernel
theorem dX1_moveBarges_47 : decode cX1_moveBarges 47 = .ok (.aload_n 0, 1) := by decide +kernel
theorem dX1_moveBarges_48 : decode cX1_moveBarges 48 = .ok (.aload_n 2, 1) := by decide +kernel
theorem dX1_moveBarges_49 : decode cX1_moveBarges 49 = .ok (.invokevirtual 173, 3) := by decide +kernel
theorem dX1_moveBarges_52 : decode cX1_moveBarges 52 = .ok (.iinc 1 1, 3) := by decide +kernel
theorem dX1_moveBarges_55 : decode cX1_moveBarges 55 = .ok (.goto (-53), 3) := by decide +kernel
theorem dX1_moveBarges_58 : decode cX1_moveBarges 58 = .ok (.return_, 1) := by decide +kernel
theorem dX1_breakThrough_0 : decode cX1_breakThrough 0 = .ok (.iconst 0, 1) := by decide +kernel
theorem dX1_breakThrough_1 : decode cX1_breakThrough 1 = .ok (.istore_n 2, 1) := by decide +kernel
theorem dX1_breakThrough_2 : decode cX1_breakThrough 2 = .ok (.iload_n 2, 1) := by decide +kernel
theorem dX1_breakThrough_3 : decode cX1_breakThrough 3 = .ok (.aload_n 0, 1) := by decide +kernel
theorem dX1_breakThrough_4 : decode cX1_breakThrough 4 = .ok (.getfield 39, 3) := by decide +kernel
theorem dX1_breakThrough_7 : decode cX1_breakThrough 7 = .ok (.if_icmp .ge 68, 3) := by decide +kernel
theorem dX1_breakThrough_10 : decode cX1_breakThrough 10 = .ok (.aload_n 0, 1) := by decide +kernel
theorem dX1_breakThrough_11 : decode cX1_breakThrough 11 = .ok (.iload_n 2, 1) := by decide +kernel
theorem dX1_breakThrough_12 : decode cX1_breakThrough 12 = .ok (.invokevirtual 43, 3) := by decide +kernel
theorem dX1_breakThrough_15 : decode cX1_breakThrough 15 = .ok (.astore_n 3, 1) := by decide +kernel
theorem dX1_breakThrough_16 : decode cX1_breakThrough 16 = .ok (.aload_n 3, 1) := by decide +kernel
theorem dX1_breakThrough_17 : decode cX1_breakThrough 17 = .ok (.ifnull 52, 3) := by decide +kernel
theorem dX1_breakThrough_20 : decode cX1_breakThrough 20 = .ok (.aload_n 3, 1) := by decide +kernel
theorem dX1_breakThrough_21 : decode cX1_breakThrough 21 = .ok (.getfield 93, 3) := by decide +kernel
theorem dX1_breakThrough_24 : decode cX1_breakThrough 24 = .ok (.aload_n 1, 1) := by decide +kernel
theorem dX1_breakThrough_25 : decode cX1_breakThrough 25 = .ok (.getfield 123, 3) := by decide +kernel
theorem dX1_breakThrough_28 : decode cX1_breakThrough 28 = .ok (.if_icmp .ne 41, 3) := by decide +kernel
theorem dX1_breakThrough_31 : decode cX1_breakThrough 31 = .ok (.aload_n 3, 1) := by decide +kernel
theorem dX1_breakThrough_32 : decode cX1_breakThrough 32 = .ok (.aload_n 1, 1) := by decide +kernel
theorem dX1_breakThrough_33 : decode cX1_breakThrough 33 = .ok (.getfield 120, 3) := by decide +kernel
theorem dX1_breakThrough_36 : decode cX1_breakThrough 36 = .ok (.invokevirtual 141, 3) := by decide +kernel
theorem dX1_breakThrough_39 : decode cX1_breakThrough 39 = .ok (.ifCond .eq 30, 3) := by decide +kernel
theorem dX1_breakThrough_42 : decode cX1_breakThrough 42 = .ok (.aload_n 0, 1) := by decide +kernel
theorem dX1_breakThrough_43 : decode cX1_breakThrough 43 = .ok (.dup, 1) := by decide +kernel
theorem dX1_breakThrough_44 : decode cX1_breakThrough 44 = .ok (.getfield 68, 3) := by decide +kernel
theorem dX1_breakThrough_47 : decode cX1_breakThrough 47 = .ok (.aload_n 3, 1) := by decide +kernel
theorem dX1_breakThrough_48 : decode cX1_breakThrough 48 = .ok (.aload_n 1, 1) := by decide +kernel
theorem dX1_breakThrough_49 : decode cX1_breakThrough 49 = .ok (.getfield 120, 3) := by decide +kernel
theorem dX1_breakThrough_52 : decode cX1_breakThrough 52 = .ok (.invokevirtual 176, 3) := by decide +kernel
theorem dX1_breakThrough_55 : decode cX1_breakThrough 55 = .ok (.iadd, 1) := by decide +kernel
theorem dX1_breakThrough_56 : decode cX1_breakThrough 56 = .ok (.putfield 68, 3) := by decide +kernel
theorem dX1_breakThrough_59 : decode cX1_breakThrough 59 = .ok (.aload_n 1, 1) := by decide +kernel
theorem dX1_breakThrough_60 : decode cX1_breakThrough 60 = .ok (.dup, 1) := by decide +kernel
theorem dX1_breakThrough_61 : decode cX1_breakThrough 61 = .ok (.getfield 124, 3) := by decide +kernel
theorem dX1_breakThrough_64 : decode cX1_breakThrough 64 = .ok (.iconst 1, 1) := by decide +kernel
theorem dX1_breakThrough_65 : decode cX1_breakThrough 65 = .ok (.iadd, 1) := by decide +kernel
theorem dX1_breakThrough_66 : decode cX1_breakThrough 66 = .ok (.putfield 124, 3) := by decide +kernel
theorem dX1_breakThrough_69 : decode cX1_breakThrough 69 = .ok (.iinc 2 1, 3) := by decide +kernel
theorem dX1_breakThrough_72 : decode cX1_breakThrough 72 = .ok (.goto (-70), 3) := by decide +kernel
theorem dX1_breakThrough_75 : decode cX1_breakThrough 75 = .ok (.return_, 1) := by decide +kernel
theorem dX1_leaveOutArrived_0 : decode cX1_leaveOutArrived 0 = .ok (.iconst 0, 1) := by decide +kernel
theorem dX1_leaveOutArrived_1 : decode cX1_leaveOutArrived 1 = .ok (.istore_n 1, 1) := by decide +kernel
theorem dX1_leaveOutArrived_2 : decode cX1_leaveOutArrived 2 = .ok (.iconst 0, 1) := by decide +kernel
theorem dX1_leaveOutArrived_3 : decode cX1_leaveOutArrived 3 = .ok (.istore_n 2, 1) := by decide +kernel
theorem dX1_leaveOutArrived_4 : decode cX1_leaveOutArrived 4 = .ok (.iload_n 2, 1) := by decide +kernel
theorem dX1_leaveOutArrived_5 : decode cX1_leaveOutArrived 5 = .ok (.aload_n 0, 1) := by decide +kernel
theorem dX1_leaveOutArrived_6 : decode cX1_leaveOutArrived 6 = .ok (.getfield 51, 3) := by decide +kernel
theorem dX1_leaveOutArrived_9 : decode cX1_leaveOutArrived 9 = .ok (.if_icmp .ge 40, 3) := by decide +kernel
theorem dX1_leaveOutArrived_12 : decode cX1_leaveOutArrived 12 = .ok (.aload_n 0, 1) := by decide +kernel
theorem dX1_leaveOutArrived_13 : decode cX1_leaveOutArrived 13 = .ok (.iload_n 2, 1) := by decide +kernel
theorem dX1_leaveOutArrived_14 : decode cX1_leaveOutArrived 14 = .ok (.invokevirtual 54, 3) := by decide +kernel
theorem dX1_leaveOutArrived_17 : decode cX1_leaveOutArrived 17 = .ok (.astore_n 3, 1) := by decide +kernel
theorem dX1_leaveOutArrived_18 : decode cX1_leaveOutArrived 18 = .ok (.aload_n 3, 1) := by decide +kernel
theorem dX1_leaveOutArrived_19 : decode cX1_leaveOutArrived 19 = .ok (.ifnull 24, 3) := by decide +kernel
theorem dX1_leaveOutArrived_22 : decode cX1_leaveOutArrived 22 = .ok (.aload_n 3, 1) := by decide +kernel
theorem dX1_leaveOutArrived_23 : decode cX1_leaveOutArrived 23 = .ok (.getfield 123, 3) := by decide +kernel
theorem dX1_leaveOutArrived_26 : decode cX1_leaveOutArrived 26 = .ok (.bipush 39, 2) := by decide +kernel
theorem dX1_leaveOutArrived_28 : decode cX1_leaveOutArrived 28 = .ok (.if_icmp .ge 15, 3) := by decide +kernel
theorem dX1_leaveOutArrived_31 : decode cX1_leaveOutArrived 31 = .ok (.aload_n 0, 1) := by decide +kernel
theorem dX1_leaveOutArrived_32 : decode cX1_leaveOutArrived 32 = .ok (.iload_n 1, 1) := by decide +kernel
theorem dX1_leaveOutArrived_33 : decode cX1_leaveOutArrived 33 = .ok (.invokevirtual 54, 3) := by decide +kernel
theorem dX1_leaveOutArrived_36 : decode cX1_leaveOutArrived 36 = .ok (.aload_n 3, 1) := by decide +kernel
theorem dX1_leaveOutArrived_37 : decode cX1_leaveOutArrived 37 = .ok (.invokestatic 58, 3) := by decide +kernel
theorem dX1_leaveOutArrived_40 : decode cX1_leaveOutArrived 40 = .ok (.iinc 1 1, 3) := by decide +kernel
theorem dX1_leaveOutArrived_43 : decode cX1_leaveOutArrived 43 = .ok (.iinc 2 1, 3) := by decide +kernel
theorem dX1_leaveOutArrived_46 : decode cX1_leaveOutArrived 46 = .ok (.goto (-42), 3) := by decide +kernel
theorem dX1_leaveOutArrived_49 : decode cX1_leaveOutArrived 49 = .ok (.aload_n 0, 1) := by decide +kernel
theorem dX1_leaveOutArrived_50 : decode cX1_leaveOutArrived 50 = .ok (.dup, 1) := by decide +kernel
theorem dX1_leaveOutArrived_51 : decode cX1_leaveOutArrived 51 = .ok (.getfield 65, 3) := by decide +kernel
theorem dX1_leaveOutArrived_54 : decode cX1_leaveOutArrived 54 = .ok (.aload_n 0, 1) := by decide +kernel
theorem dX1_leaveOutArrived_55 : decode cX1_leaveOutArrived 55 = .ok (.getfield 51, 3) := by decide +kernel
theorem dX1_leaveOutArrived_58 : decode cX1_leaveOutArrived 58 = .ok (.iload_n 1, 1) := by decide +kernel
theorem dX1_leaveOutArrived_59 : decode cX1_leaveOutArrived 59 = .ok (.isub, 1) := by decide +kernel
theorem dX1_leaveOutArrived_60 : decode cX1_leaveOutArrived 60 = .ok (.iadd, 1) := by decide +kernel
theorem dX1_leaveOutArrived_61 : decode cX1_leaveOutArrived 61 = .ok (.putfield 65, 3) := by decide +kernel
theorem dX1_leaveOutArrived_64 : decode cX1_leaveOutArrived 64 = .ok (.aload_n 0, 1) := by decide +kernel
theorem dX1_leaveOutArrived_65 : decode cX1_leaveOutArrived 65 = .ok (.iload_n 1, 1) := by decide +kernel
theorem dX1_leaveOutArrived_66 : decode cX1_leaveOutArrived 66 = .ok (.putfield 51, 3) := by decide +kernel
theorem dX1_leaveOutArrived_69 : decode cX1_leaveOutArrived 69 = .ok (.return_, 1) := by decide +kernel
theorem dX1_rotWattle_0 : decode cX1_rotWattle 0 = .ok (.aload_n 0, 1) := by decide +kernel
theorem dX1_rotWattle_1 : decode cX1_rotWattle 1 = .ok (.invokevirtual 107, 3) := by decide +kernel
theorem dX1_rotWattle_4 : decode cX1_rotWattle 4 = .ok (.iconst 1, 1) := by decide +kernel
theorem dX1_rotWattle_5 : decode cX1_rotWattle 5 = .ok (.if_icmp .ne 7, 3) := by decide +kernel
theorem dX1_rotWattle_8 : decode cX1_rotWattle 8 = .ok (.iconst 1, 1) := by decide +kernel
theorem dX1_rotWattle_9 : decode cX1_rotWattle 9 = .ok (.goto 4, 3) := by decide +kernel
theorem dX1_rotWattle_12 : decode cX1_rotWattle 12 = .ok (.iconst 3, 1) := by decide +kernel
theorem dX1_rotWattle_13 : decode cX1_rotWattle 13 = .ok (.istore_n 1, 1) := by decide +kernel
theorem dX1_rotWattle_14 : decode cX1_rotWattle 14 = .ok (.iconst 0, 1) := by decide +kernel
theorem dX1_rotWattle_15 : decode cX1_rotWattle 15 = .ok (.istore_n 2, 1) := by decide +kernel
theorem dX1_rotWattle_16 : decode cX1_rotWattle 16 = .ok (.iload_n 2, 1) := by decide +kernel
theorem dX1_rotWattle_17 : decode cX1_rotWattle 17 = .ok (.aload_n 0, 1) := by decide +kernel
theorem dX1_rotWattle_18 : decode cX1_rotWattle 18 = .ok (.getfield 39, 3) := by decide +kernel
theorem dX1_rotWattle_21 : decode cX1_rotWattle 21 = .ok (.if_icmp .ge 31, 3) := by decide +kernel
theorem dX1_rotWattle_24 : decode cX1_rotWattle 24 = .ok (.aload_n 0, 1) := by decide +kernel
theorem dX1_rotWattle_25 : decode cX1_rotWattle 25 = .ok (.iload_n 2, 1) := by decide +kernel
theorem dX1_rotWattle_26 : decode cX1_rotWattle 26 = .ok (.invokevirtual 43, 3) := by decide +kernel
theorem dX1_rotWattle_29 : decode cX1_rotWattle 29 = .ok (.astore_n 3, 1) := by decide +kernel
theorem dX1_rotWattle_30 : decode cX1_rotWattle 30 = .ok (.aload_n 3, 1) := by decide +kernel
theorem dX1_rotWattle_31 : decode cX1_rotWattle 31 = .ok (.ifnull 15, 3) := by decide +kernel
theorem dX1_rotWattle_34 : decode cX1_rotWattle 34 = .ok (.aload_n 3, 1) := by decide +kernel
theorem dX1_rotWattle_35 : decode cX1_rotWattle 35 = .ok (.invokevirtual 131, 3) := by decide +kernel
theorem dX1_rotWattle_38 : decode cX1_rotWattle 38 = .ok (.ifCond .eq 8, 3) := by decide +kernel
theorem dX1_rotWattle_41 : decode cX1_rotWattle 41 = .ok (.aload_n 3, 1) := by decide +kernel
theorem dX1_rotWattle_42 : decode cX1_rotWattle 42 = .ok (.iload_n 1, 1) := by decide +kernel
theorem dX1_rotWattle_43 : decode cX1_rotWattle 43 = .ok (.invokevirtual 179, 3) := by decide +kernel
theorem dX1_rotWattle_46 : decode cX1_rotWattle 46 = .ok (.iinc 2 1, 3) := by decide +kernel
theorem dX1_rotWattle_49 : decode cX1_rotWattle 49 = .ok (.goto (-33), 3) := by decide +kernel
theorem dX1_rotWattle_52 : decode cX1_rotWattle 52 = .ok (.return_, 1) := by decide +kernel
theorem dX1_collectRents_0 : decode cX1_collectRents 0 = .ok (.iconst 0, 1) := by decide +kernel
theorem dX1_collectRents_1 : decode cX1_collectRents 1 = .ok (.istore_n 1, 1) := by decide +kernel
theorem dX1_collectRents_2 : decode cX1_collectRents 2 = .ok (.iload_n 1, 1) := by decide +kernel
theorem dX1_collectRents_3 : decode cX1_collectRents 3 = .ok (.aload_n 0, 1) := by decide +kernel
theorem dX1_collectRents_4 : decode cX1_collectRents 4 = .ok (.getfield 39, 3) := by decide +kernel
theorem dX1_collectRents_7 : decode cX1_collectRents 7 = .ok (.if_icmp .ge 39, 3) := by decide +kernel
theorem dX1_collectRents_10 : decode cX1_collectRents 10 = .ok (.aload_n 0, 1) := by decide +kernel
theorem dX1_collectRents_11 : decode cX1_collectRents 11 = .ok (.iload_n 1, 1) := by decide +kernel
theorem dX1_collectRents_12 : decode cX1_collectRents 12 = .ok (.invokevirtual 43, 3) := by decide +kernel
theorem dX1_collectRents_15 : decode cX1_collectRents 15 = .ok (.astore_n 2, 1) := by decide +kernel
theorem dX1_collectRents_16 : decode cX1_collectRents 16 = .ok (.aload_n 2, 1) := by decide +kernel
theorem dX1_collectRents_17 : decode cX1_collectRents 17 = .ok (.ifnull 23, 3) := by decide +kernel
theorem dX1_collectRents_20 : decode cX1_collectRents 20 = .ok (.aload_n 2, 1) := by decide +kernel
theorem dX1_collectRents_21 : decode cX1_collectRents 21 = .ok (.invokevirtual 131, 3) := by decide +kernel
theorem dX1_collectRents_24 : decode cX1_collectRents 24 = .ok (.ifCond .eq 16, 3) := by decide +kernel
theorem dX1_collectRents_27 : decode cX1_collectRents 27 = .ok (.aload_n 0, 1) := by decide +kernel
theorem dX1_collectRents_28 : decode cX1_collectRents 28 = .ok (.dup, 1) := by decide +kernel
theorem dX1_collectRents_29 : decode cX1_collectRents 29 = .ok (.getfield 71, 3) := by decide +kernel
theorem dX1_collectRents_32 : decode cX1_collectRents 32 = .ok (.aload_n 2, 1) := by decide +kernel
theorem dX1_collectRents_33 : decode cX1_collectRents 33 = .ok (.invokevirtual 182, 3) := by decide +kernel
theorem dX1_collectRents_36 : decode cX1_collectRents 36 = .ok (.iadd, 1) := by decide +kernel
theorem dX1_collectRents_37 : decode cX1_collectRents 37 = .ok (.putfield 71, 3) := by decide +kernel
theorem dX1_collectRents_40 : decode cX1_collectRents 40 = .ok (.iinc 1 1, 3) := by decide +kernel
theorem dX1_collectRents_43 : decode cX1_collectRents 43 = .ok (.goto (-41), 3) := by decide +kernel
theorem dX1_collectRents_46 : decode cX1_collectRents 46 = .ok (.return_, 1) := by decide +kernel
end
section
theorem va_P_nil {D : va_G} {H : Heap} : va_P D vwCl [] H := fun k q h => by simp at h
theorem nI_nm1 {i : Nat} (h : i < 2 ^ 31) : ¬ nI i = -1 := fun h2 => by
  have h3 := congrArg Int32.toInt h2
  rw [nI_toInt h] at h3
  have h4 : ((-1 : Int32)).toInt = -1 := by decide
  omega
theorem nI_xor0 {a b : Nat} (ha : a < 2147483648) (hb : b < 2147483648) : 0 ≤ (nI a ^^^ nI b) := by
  have h : nI a ^^^ nI b = nI (a ^^^ b) := by
    refine Int32.toBitVec_inj.mp ?_
    show (nI a).toBitVec ^^^ (nI b).toBitVec = (nI (a ^^^ b)).toBitVec
    exact (BitVec.ofNat_xor).symm
  rw [h]
  exact nI_pos' (Nat.xor_lt_two_pow (n := 31) ha hb)
theorem zMet.ofWF {l : Launch} {y : MethodName} {ws ws' : List Cond} {rm : Room} {Pc : Array Value → State → Prop} {Qc : Array Value → State → Outcome → State → Prop} {mc ms : Nat} {free : Addr → Prop} {cc : ByteArray} {maxL : Nat} {ret : Option FieldType}
    (hy : plainFor y = true) (hw : ws = Cond.code y cc maxL ret :: ws')
    (body : ∀ p e s m args below meth c s₁, BodyLoose p l y (headSpec ws rm) cc maxL ret e s m args below meth c s₁ → c.maxLocals = maxL → Pc args s →
      W p l e (headSpec ws rm).room s m args below meth c s.heap [] 0 0 (MQ below Qc args s mc ms free) (entryFrame m args maxL)) : Met l y ws rm Pc Qc mc ms free := by
  refine MetFree.of_bodySF (code := cc) (maxLocals := maxL) (ret := ret) hy ?_ ?_
  · intro args s m h hn
    obtain ⟨meth, c, h1, h2, h3, h4, h5, h6, -, -⟩ := Cond.code_spec hn (atoms_spec (ws := ws) h _ (by rw [hw]; exact List.mem_cons_self))
    exact ⟨meth, c, h1, h2, h3, h4, h5, h6⟩
  · intro p e s m args below meth c s₁ B hml hP _
    have hh0 : s₁.heap = s.heap := by rw [B.state]; rfl
    obtain ⟨t, a1, o, b1, b2, b3⟩ := body p e s m args below meth c s₁ B hml hP s₁ hh0 (Stand.of_body B)
    exact ⟨t, o, a1, b1, b2, ⟨b3.1, b3.2⟩⟩
theorem zR.ofF {l : Launch} {n : MethodName} {ws ws' : List Cond} {rm : Room} {D : va_G} {y : Nat → ClassId} {av : List Value} {w : va_W} {rv : Option Value} {cc : ByteArray} {maxL : Nat} {ret : Option FieldType} {own : String}
    (hy : plainFor n = true) (hw : ws = Cond.code n cc maxL ret :: ws') (hlen : (lg_sl av).length ≤ maxL) (ho : n.cls = own)
    (body : ∀ (p : Program) (e : Env) (s : State) (m : MethodId) (args : Array Value) (below : List Frame) (meth : Method) (c : Code) (ls : Array Slot), p.tables.exec = Jvm.exec → c.code = cc → meth.sig.returnType = ret → c.maxLocals = maxL → s.vm.findClass own = some m.cls → (∀ x ∈ ws, x.before args s = true) → meth.locks = false → va_P D vwCl w s.heap → va_K D vwCl (tyL y) s → lv_has ls maxL (lv_args 0 av) → W p l e rm s m args below meth c s.heap [] 0 0 (MQ below (zRQ rv) args s 0 0 (fun _ => False)) (F0 m 0 ls [])) : zR l n ws rm D y av w rv := by
  refine zMet.ofWF (cc := cc) (maxL := maxL) (ret := ret) hy hw ?_
  intro p e s m args below meth c s₁ B hml hv
  obtain ⟨rfl, hP, hK⟩ := hv
  have hown : s.vm.findClass own = some m.cls := by rw [← ho]; exact findClass_of_methodNamed B.named
  have hl := lv_entry av (n := maxL) hlen
  have hts := atoms_spec (ws := ws) B.pre
  rw [lg_entry_eq]
  exact body p e s m _ below meth c _ B.exec B.bytes B.returns hml hown hts B.notSynchronized hP hK hl
set_option maxHeartbeats 4000000 in
set_option maxRecDepth 100000 in
theorem c_J9_floorMod_7cf53 (l : Launch) (D : va_G) (y : Nat → ClassId) (a d : Nat) (ha : a < 2147483648) (hd0 : 0 < d) (hd : d < 2147483648)  : zR l yJ9_floorMod_7cf53 wsJ9_floorMod_7cf53 { frames := 0, cells := 0, slots := 0, locals := 0 } D y [.int (nI a), .int (nI d)] ([]) (some (.int (nI (a % d)))) := by
  refine zR.ofF (cc := cJ9_floorMod_7cf53) (maxL := 3) (ret := (some .int)) (own := RJ9) (by decide +kernel) rfl (Nat.le_of_ble_eq_true rfl) rfl ?_
  intro p e s m args below meth cd ls hx hb hr hml hown hts hlocks hP hK hl
  have hl : lv_has ls 3 [(0, .int (nI a)), (1, .int (nI d))] := hl
  refine lv_iload_n hx hb dJ9_floorMod_7cf53_0 rfl (lv_at hl 0 rfl) ?_
  refine lv_iload_n hx hb dJ9_floorMod_7cf53_1 rfl (lv_at hl 1 rfl) ?_
  refine lv_irem hx hb dJ9_floorMod_7cf53_2 (nI_ne0 hd0 hd) ?_
  refine lv_istore_n (lv' := [(2, .int ((nI a - nI a / nI d * nI d))), (0, .int (nI a)), (1, .int (nI d))]) hx hb dJ9_floorMod_7cf53_3 rfl hl (by decide) rfl (fun ls hl => ?_)
  refine lv_iload_n hx hb dJ9_floorMod_7cf53_4 rfl (lv_at hl 1 rfl) ?_
  refine lv_iload_n hx hb dJ9_floorMod_7cf53_5 rfl (lv_at hl 2 rfl) ?_
  refine lv_ixor hx hb dJ9_floorMod_7cf53_6 ?_
  refine lv_if_ge (tgt := 18) hx hb dJ9_floorMod_7cf53_7 (by decide) (fun c1 => ?_) (fun c1 => ?_)
  · have d1 := Int32.not_lt.mpr c1
    refine lv_iload_n hx hb dJ9_floorMod_7cf53_18 rfl (lv_at hl 0 rfl) ?_
    exact zR_i hx hb hr hlocks dJ9_floorMod_7cf53_19 (by rw [pk_rem ha hd0 hd])
  · exact absurd (nI_xor0 ha hd) c1
set_option maxHeartbeats 4000000 in
set_option maxRecDepth 100000 in
theorem c_X1_weirAt (l : Launch) (D : va_G) (y : Nat → ClassId) (E : Nat → Nat) (t : Nat → Int32) (o : Nat → Nat) (q b : Fld) (c bc n : Nat) (ar fi re : Int32) (k : Nat) (hk : k < c) (hc : c ≤ 6) : zR l yX1_weirAt wsX1_weirAt { frames := 0, cells := 0, slots := 0, locals := 0 } D y [.ref (E 0), .int (nI k)] (eW E y t o q b c bc n ar fi re) (some (.ref (E (5 + k)))) := by
  refine zR.of (cc := cX1_weirAt) (maxL := 3) (ret := (some (.object "StakeWeirs$Weir"))) (own := RX1) (by decide) rfl (Nat.le_of_ble_eq_true rfl) rfl ?_
  intro p e s m args below meth cd ls hx hb hr hml hown hts hlocks hP hK hl
  have hl : lv_has ls 3 [(0, .ref (E 0)), (1, .int (nI k))] := hl
  have hf39 : (Cond.fieldLink RX1 39 "StakeWeirs$Estuary" "weirCount" "I").before args s = true := hts _ (by decide +kernel)
  have hinX1 : ∀ w ∈ wsX10, w ∈ wsX1_weirAt := by decide +kernel
  have hf20 : (Cond.fieldLink RX1 20 "StakeWeirs$Estuary" "weirs" "[LStakeWeirs$Weir;").before args s = true := hts _ (by decide +kernel)
  refine lv_iload_n hx hb dX1_weirAt_0 rfl (lv_at hl 1 rfl) ?_
  refine lv_if_lt (tgt := 25) hx hb dX1_weirAt_1 (by decide) (fun c1 => ?_) (fun c1 => ?_)
  · exact absurd c1 (nI_nlt (a := k) (b := 0) (by omega) (by omega))
  · have d1 := Int32.not_lt.mp c1
    refine lv_iload_n hx hb dX1_weirAt_4 rfl (lv_at hl 1 rfl) ?_
    refine lv_aload_n hx hb dX1_weirAt_5 rfl (lv_at hl 0 rfl) ?_
    refine va_get (D := D) (ci := 1) (v := .int (nI c)) (C := RX1) (T := TX1) (N := 10) hx hb hts hinX1 hown hK hP (0) rfl rfl 4 (by decide) hf39 (fun _ h9 => h9) rfl dX1_weirAt_6 ?_
    refine lv_icmp_ge (tgt := 25) hx hb dX1_weirAt_9 (by decide) (fun c2 => ?_) (fun c2 => ?_)
    · exact absurd c2 (nI_ge (a := k) (b := c) (by omega) (by omega))
    · have d2 := Int32.not_le.mp c2
      refine lv_iload_n hx hb dX1_weirAt_12 rfl (lv_at hl 1 rfl) ?_
      refine lv_aload_n hx hb dX1_weirAt_13 rfl (lv_at hl 0 rfl) ?_
      refine va_get (D := D) (ci := 1) (v := .ref (E 2)) (C := RX1) (T := TX1) (N := 10) hx hb hts hinX1 hown hK hP (0) rfl rfl 1 (by decide) hf20 (fun _ h9 => h9) rfl dX1_weirAt_14 ?_
      refine va_alen hx hb hK hP 2 1 (v := nI 6) rfl rfl rfl dX1_weirAt_17 ?_
      refine lv_icmp_ge (tgt := 25) hx hb dX1_weirAt_18 (by decide) (fun c3 => ?_) (fun c3 => ?_)
      · exact absurd c3 (nI_ge (a := k) (b := 6) (by omega) (by omega))
      · have d3 := Int32.not_le.mp c3
        refine lv_iconst (v := 1) hx hb dX1_weirAt_21 (by decide) ?_
        refine lv_goto (tgt := 26) hx hb dX1_weirAt_22 (by decide) ?_
        refine lv_istore_n (lv' := [(2, .int 1), (0, .ref (E 0)), (1, .int (nI k))]) hx hb dX1_weirAt_26 rfl hl (by decide) rfl (fun ls hl => ?_)
        refine lv_iload_n hx hb dX1_weirAt_27 rfl (lv_at hl 0 rfl) ?_
        refine lv_if_eq (tgt := 40) hx hb dX1_weirAt_28 (by decide) (fun c4 => ?_) (fun c4 => ?_)
        · exact absurd c4 (by decide)
        · have d4 := c4
          refine lv_aload_n hx hb dX1_weirAt_31 rfl (lv_at hl 1 rfl) ?_
          refine va_get (D := D) (ci := 1) (v := .ref (E 2)) (C := RX1) (T := TX1) (N := 10) hx hb hts hinX1 hown hK hP (0) rfl rfl 1 (by decide) hf20 (fun _ h9 => h9) rfl dX1_weirAt_32 ?_
          refine lv_iload_n hx hb dX1_weirAt_35 rfl (lv_at hl 2 rfl) ?_
          refine z_aldq hx hb hK hP 2 1 (j := 1) rfl rfl k (E (5 + k)) rfl (by omega) (by decide) rfl dX1_weirAt_36 ?_
          refine lv_goto (tgt := 41) hx hb dX1_weirAt_37 (by decide) ?_
          exact zR_a hx hb hr hlocks dX1_weirAt_41 (Or.inr ⟨_, rfl⟩) rfl
set_option maxHeartbeats 4000000 in
set_option maxRecDepth 100000 in
theorem c_X1_weirAt_no (l : Launch) (D : va_G) (y : Nat → ClassId) (E : Nat → Nat) (t : Nat → Int32) (o : Nat → Nat) (q b : Fld) (c bc n : Nat) (ar fi re : Int32) (x : Int32) (hx0 : x < 0 ∨ nI c ≤ x) (hc : c ≤ 6) : zR l yX1_weirAt wsX1_weirAt { frames := 0, cells := 0, slots := 0, locals := 0 } D y [.ref (E 0), .int x] (eW E y t o q b c bc n ar fi re) (some .null) := by
  refine zR.of (cc := cX1_weirAt) (maxL := 3) (ret := (some (.object "StakeWeirs$Weir"))) (own := RX1) (by decide) rfl (Nat.le_of_ble_eq_true rfl) rfl ?_
  intro p e s m args below meth cd ls hx hb hr hml hown hts hlocks hP hK hl
  have hl : lv_has ls 3 [(0, .ref (E 0)), (1, .int x)] := hl
  have hf39 : (Cond.fieldLink RX1 39 "StakeWeirs$Estuary" "weirCount" "I").before args s = true := hts _ (by decide +kernel)
  have hinX1 : ∀ w ∈ wsX10, w ∈ wsX1_weirAt := by decide +kernel
  refine lv_iload_n hx hb dX1_weirAt_0 rfl (lv_at hl 1 rfl) ?_
  refine lv_if_lt (tgt := 25) hx hb dX1_weirAt_1 (by decide) (fun c1 => ?_) (fun c1 => ?_)
  · have d1 := Int32.not_le.mpr c1
    refine lv_iconst (v := 0) hx hb dX1_weirAt_25 (by decide) ?_
    refine lv_istore_n (lv' := [(2, .int 0), (0, .ref (E 0)), (1, .int x)]) hx hb dX1_weirAt_26 rfl hl (by decide) rfl (fun ls hl => ?_)
    refine lv_iload_n hx hb dX1_weirAt_27 rfl (lv_at hl 0 rfl) ?_
    refine lv_if_eq (tgt := 40) hx hb dX1_weirAt_28 (by decide) (fun c2 => ?_) (fun c2 => ?_)
    · have d2 := c2
      refine lv_null hx hb dX1_weirAt_40 ?_
      exact zR_a hx hb hr hlocks dX1_weirAt_41 (Or.inl rfl) (by simp [c1, d1])
    · exact absurd (by decide) c2
  · have d1 := Int32.not_lt.mp c1
    refine lv_iload_n hx hb dX1_weirAt_4 rfl (lv_at hl 1 rfl) ?_
    refine lv_aload_n hx hb dX1_weirAt_5 rfl (lv_at hl 0 rfl) ?_
    refine va_get (D := D) (ci := 1) (v := .int (nI c)) (C := RX1) (T := TX1) (N := 10) hx hb hts hinX1 hown hK hP (0) rfl rfl 4 (by decide) hf39 (fun _ h9 => h9) rfl dX1_weirAt_6 ?_
    refine lv_icmp_ge (tgt := 25) hx hb dX1_weirAt_9 (by decide) (fun c3 => ?_) (fun c3 => ?_)
    · have d3 := Int32.not_lt.mpr c3
      refine lv_iconst (v := 0) hx hb dX1_weirAt_25 (by decide) ?_
      refine lv_istore_n (lv' := [(2, .int 0), (0, .ref (E 0)), (1, .int x)]) hx hb dX1_weirAt_26 rfl hl (by decide) rfl (fun ls hl => ?_)
      refine lv_iload_n hx hb dX1_weirAt_27 rfl (lv_at hl 0 rfl) ?_
      refine lv_if_eq (tgt := 40) hx hb dX1_weirAt_28 (by decide) (fun c4 => ?_) (fun c4 => ?_)
      · have d4 := c4
        refine lv_null hx hb dX1_weirAt_40 ?_
        exact zR_a hx hb hr hlocks dX1_weirAt_41 (Or.inl rfl) (by simp [c1, d1])
      · exact absurd (by decide) c4
    · exact absurd (hx0.resolve_left c1) c3
set_option maxHeartbeats 4000000 in
set_option maxRecDepth 100000 in
theorem c_X1_bargeAt (l : Launch) (D : va_G) (y : Nat → ClassId) (E : Nat → Nat) (t : Nat → Int32) (o : Nat → Nat) (q b : Fld) (c bc n : Nat) (ar fi re : Int32) (k : Nat) (hk : k < bc) (hbc : bc ≤ 5) : zR l yX1_bargeAt wsX1_bargeAt { frames := 0, cells := 0, slots := 0, locals := 0 } D y [.ref (E 0), .int (nI k)] (eW E y t o q b c bc n ar fi re) (some (.ref (E (11 + k)))) := by
  refine zR.of (cc := cX1_bargeAt) (maxL := 3) (ret := (some (.object "StakeWeirs$Barge"))) (own := RX1) (by decide) rfl (Nat.le_of_ble_eq_true rfl) rfl ?_
  intro p e s m args below meth cd ls hx hb hr hml hown hts hlocks hP hK hl
  have hl : lv_has ls 3 [(0, .ref (E 0)), (1, .int (nI k))] := hl
  have hf51 : (Cond.fieldLink RX1 51 "StakeWeirs$Estuary" "bargeCount" "I").before args s = true := hts _ (by decide +kernel)
  have hinX1 : ∀ w ∈ wsX10, w ∈ wsX1_bargeAt := by decide +kernel
  have hf27 : (Cond.fieldLink RX1 27 "StakeWeirs$Estuary" "barges" "[LStakeWeirs$Barge;").before args s = true := hts _ (by decide +kernel)
  refine lv_iload_n hx hb dX1_bargeAt_0 rfl (lv_at hl 1 rfl) ?_
  refine lv_if_lt (tgt := 25) hx hb dX1_bargeAt_1 (by decide) (fun c1 => ?_) (fun c1 => ?_)
  · exact absurd c1 (nI_nlt (a := k) (b := 0) (by omega) (by omega))
  · have d1 := Int32.not_lt.mp c1
    refine lv_iload_n hx hb dX1_bargeAt_4 rfl (lv_at hl 1 rfl) ?_
    refine lv_aload_n hx hb dX1_bargeAt_5 rfl (lv_at hl 0 rfl) ?_
    refine va_get (D := D) (ci := 1) (v := .int (nI bc)) (C := RX1) (T := TX1) (N := 10) hx hb hts hinX1 hown hK hP (0) rfl rfl 5 (by decide) hf51 (fun _ h9 => h9) rfl dX1_bargeAt_6 ?_
    refine lv_icmp_ge (tgt := 25) hx hb dX1_bargeAt_9 (by decide) (fun c2 => ?_) (fun c2 => ?_)
    · exact absurd c2 (nI_ge (a := k) (b := bc) (by omega) (by omega))
    · have d2 := Int32.not_le.mp c2
      refine lv_iload_n hx hb dX1_bargeAt_12 rfl (lv_at hl 1 rfl) ?_
      refine lv_aload_n hx hb dX1_bargeAt_13 rfl (lv_at hl 0 rfl) ?_
      refine va_get (D := D) (ci := 1) (v := .ref (E 4)) (C := RX1) (T := TX1) (N := 10) hx hb hts hinX1 hown hK hP (0) rfl rfl 3 (by decide) hf27 (fun _ h9 => h9) rfl dX1_bargeAt_14 ?_
      refine va_alen hx hb hK hP 4 2 (v := nI 5) rfl rfl rfl dX1_bargeAt_17 ?_
      refine lv_icmp_ge (tgt := 25) hx hb dX1_bargeAt_18 (by decide) (fun c3 => ?_) (fun c3 => ?_)
      · exact absurd c3 (nI_ge (a := k) (b := 5) (by omega) (by omega))
      · have d3 := Int32.not_le.mp c3
        refine lv_iconst (v := 1) hx hb dX1_bargeAt_21 (by decide) ?_
        refine lv_goto (tgt := 26) hx hb dX1_bargeAt_22 (by decide) ?_
        refine lv_istore_n (lv' := [(2, .int 1), (0, .ref (E 0)), (1, .int (nI k))]) hx hb dX1_bargeAt_26 rfl hl (by decide) rfl (fun ls hl => ?_)
        refine lv_iload_n hx hb dX1_bargeAt_27 rfl (lv_at hl 0 rfl) ?_
        refine lv_if_eq (tgt := 40) hx hb dX1_bargeAt_28 (by decide) (fun c4 => ?_) (fun c4 => ?_)
        · exact absurd c4 (by decide)
        · have d4 := c4
          refine lv_aload_n hx hb dX1_bargeAt_31 rfl (lv_at hl 1 rfl) ?_
          refine va_get (D := D) (ci := 1) (v := .ref (E 4)) (C := RX1) (T := TX1) (N := 10) hx hb hts hinX1 hown hK hP (0) rfl rfl 3 (by decide) hf27 (fun _ h9 => h9) rfl dX1_bargeAt_32 ?_
          refine lv_iload_n hx hb dX1_bargeAt_35 rfl (lv_at hl 2 rfl) ?_
          refine z_aldq hx hb hK hP 4 2 (j := 2) rfl rfl k (E (11 + k)) rfl (by omega) (by decide) rfl dX1_bargeAt_36 ?_
          refine lv_goto (tgt := 41) hx hb dX1_bargeAt_37 (by decide) ?_
          exact zR_a hx hb hr hlocks dX1_bargeAt_41 (Or.inr ⟨_, rfl⟩) rfl
set_option maxHeartbeats 4000000 in
set_option maxRecDepth 100000 in
theorem c_X1_bargeAt_no (l : Launch) (D : va_G) (y : Nat → ClassId) (E : Nat → Nat) (t : Nat → Int32) (o : Nat → Nat) (q b : Fld) (c bc n : Nat) (ar fi re : Int32) (x : Int32) (hx0 : x < 0 ∨ nI bc ≤ x) (hbc : bc ≤ 5) : zR l yX1_bargeAt wsX1_bargeAt { frames := 0, cells := 0, slots := 0, locals := 0 } D y [.ref (E 0), .int x] (eW E y t o q b c bc n ar fi re) (some .null) := by
  refine zR.of (cc := cX1_bargeAt) (maxL := 3) (ret := (some (.object "StakeWeirs$Barge"))) (own := RX1) (by decide) rfl (Nat.le_of_ble_eq_true rfl) rfl ?_
  intro p e s m args below meth cd ls hx hb hr hml hown hts hlocks hP hK hl
  have hl : lv_has ls 3 [(0, .ref (E 0)), (1, .int x)] := hl
  have hf51 : (Cond.fieldLink RX1 51 "StakeWeirs$Estuary" "bargeCount" "I").before args s = true := hts _ (by decide +kernel)
  have hinX1 : ∀ w ∈ wsX10, w ∈ wsX1_bargeAt := by decide +kernel
  refine lv_iload_n hx hb dX1_bargeAt_0 rfl (lv_at hl 1 rfl) ?_
  refine lv_if_lt (tgt := 25) hx hb dX1_bargeAt_1 (by decide) (fun c1 => ?_) (fun c1 => ?_)
  · have d1 := Int32.not_le.mpr c1
    refine lv_iconst (v := 0) hx hb dX1_bargeAt_25 (by decide) ?_
    refine lv_istore_n (lv' := [(2, .int 0), (0, .ref (E 0)), (1, .int x)]) hx hb dX1_bargeAt_26 rfl hl (by decide) rfl (fun ls hl => ?_)
    refine lv_iload_n hx hb dX1_bargeAt_27 rfl (lv_at hl 0 rfl) ?_
    refine lv_if_eq (tgt := 40) hx hb dX1_bargeAt_28 (by decide) (fun c2 => ?_) (fun c2 => ?_)
    · have d2 := c2
      refine lv_null hx hb dX1_bargeAt_40 ?_
      exact zR_a hx hb hr hlocks dX1_bargeAt_41 (Or.inl rfl) (by simp [c1, d1])
    · exact absurd (by decide) c2
  · have d1 := Int32.not_lt.mp c1
    refine lv_iload_n hx hb dX1_bargeAt_4 rfl (lv_at hl 1 rfl) ?_
    refine lv_aload_n hx hb dX1_bargeAt_5 rfl (lv_at hl 0 rfl) ?_
    refine va_get (D := D) (ci := 1) (v := .int (nI bc)) (C := RX1) (T := TX1) (N := 10) hx hb hts hinX1 hown hK hP (0) rfl rfl 5 (by decide) hf51 (fun _ h9 => h9) rfl dX1_bargeAt_6 ?_
    refine lv_icmp_ge (tgt := 25) hx hb dX1_bargeAt_9 (by decide) (fun c3 => ?_) (fun c3 => ?_)
    · have d3 := Int32.not_lt.mpr c3
      refine lv_iconst (v := 0) hx hb dX1_bargeAt_25 (by decide) ?_
      refine lv_istore_n (lv' := [(2, .int 0), (0, .ref (E 0)), (1, .int x)]) hx hb dX1_bargeAt_26 rfl hl (by decide) rfl (fun ls hl => ?_)
      refine lv_iload_n hx hb dX1_bargeAt_27 rfl (lv_at hl 0 rfl) ?_
      refine lv_if_eq (tgt := 40) hx hb dX1_bargeAt_28 (by decide) (fun c4 => ?_) (fun c4 => ?_)
      · have d4 := c4
        refine lv_null hx hb dX1_bargeAt_40 ?_
        exact zR_a hx hb hr hlocks dX1_bargeAt_41 (Or.inl rfl) (by simp [c1, d1])
      · exact absurd (by decide) c4
    · exact absurd (hx0.resolve_left c1) c3
set_option maxHeartbeats 4000000 in
set_option maxRecDepth 100000 in
theorem c_X1_inOrder (l : Launch) (D : va_G) (y : Nat → ClassId) (E : Nat → Nat) (t : Nat → Int32) (o : Nat → Nat) (q b : Fld) (c bc n : Nat) (ar fi re : Int32) (k : Nat) (hk : k < 6) : zR l yX1_inOrder wsX1_inOrder { frames := 0, cells := 0, slots := 0, locals := 0 } D y [.ref (E 0), .int (nI k)] (eW E y t o q b c bc n ar fi re) (some (.int (nI (o k)))) := by
  refine zR.of (cc := cX1_inOrder) (maxL := 2) (ret := (some .int)) (own := RX1) (by decide) rfl (Nat.le_of_ble_eq_true rfl) rfl ?_
  intro p e s m args below meth cd ls hx hb hr hml hown hts hlocks hP hK hl
  have hl : lv_has ls 2 [(0, .ref (E 0)), (1, .int (nI k))] := hl
  have hf15 : (Cond.fieldLink RX1 15 "StakeWeirs$Estuary" "order" "[I").before args s = true := hts _ (by decide +kernel)
  have hinX1 : ∀ w ∈ wsX10, w ∈ wsX1_inOrder := by decide +kernel
  refine lv_iload_n hx hb dX1_inOrder_0 rfl (lv_at hl 1 rfl) ?_
  refine lv_if_lt (tgt := 22) hx hb dX1_inOrder_1 (by decide) (fun c1 => ?_) (fun c1 => ?_)
  · exact absurd c1 (nI_nlt (a := k) (b := 0) (by omega) (by omega))
  · have d1 := Int32.not_lt.mp c1
    refine lv_iload_n hx hb dX1_inOrder_4 rfl (lv_at hl 1 rfl) ?_
    refine lv_aload_n hx hb dX1_inOrder_5 rfl (lv_at hl 0 rfl) ?_
    refine va_get (D := D) (ci := 1) (v := .ref (E 3)) (C := RX1) (T := TX1) (N := 10) hx hb hts hinX1 hown hK hP (0) rfl rfl 2 (by decide) hf15 (fun _ h9 => h9) rfl dX1_inOrder_6 ?_
    refine va_alen hx hb hK hP 3 0 (v := nI 6) rfl rfl rfl dX1_inOrder_9 ?_
    refine lv_icmp_ge (tgt := 22) hx hb dX1_inOrder_10 (by decide) (fun c2 => ?_) (fun c2 => ?_)
    · exact absurd c2 (nI_ge (a := k) (b := 6) (by omega) (by omega))
    · have d2 := Int32.not_le.mp c2
      refine lv_aload_n hx hb dX1_inOrder_13 rfl (lv_at hl 0 rfl) ?_
      refine va_get (D := D) (ci := 1) (v := .ref (E 3)) (C := RX1) (T := TX1) (N := 10) hx hb hts hinX1 hown hK hP (0) rfl rfl 2 (by decide) hf15 (fun _ h9 => h9) rfl dX1_inOrder_14 ?_
      refine lv_iload_n hx hb dX1_inOrder_17 rfl (lv_at hl 1 rfl) ?_
      refine z_ald hx hb hK hP 3 (f := (fun i => nI (o i))) rfl k rfl (by omega) (by decide) dX1_inOrder_18 ?_
      refine lv_goto (tgt := 23) hx hb dX1_inOrder_19 (by decide) ?_
      exact zR_i hx hb hr hlocks dX1_inOrder_23 rfl
set_option maxHeartbeats 4000000 in
set_option maxRecDepth 100000 in
theorem c_X1_tableEels (l : Launch) (D : va_G) (y : Nat → ClassId) (E : Nat → Nat) (t : Nat → Int32) (o : Nat → Nat) (q b : Fld) (c bc n : Nat) (ar fi re : Int32) (k : Nat) (hk : k < 7) : zR l yX1_tableEels wsX1_tableEels { frames := 0, cells := 0, slots := 0, locals := 0 } D y [.ref (E 0), .int (nI k)] (eW E y t o q b c bc n ar fi re) (some (.int (t k))) := by
  refine zR.of (cc := cX1_tableEels) (maxL := 2) (ret := (some .int)) (own := RX1) (by decide) rfl (Nat.le_of_ble_eq_true rfl) rfl ?_
  intro p e s m args below meth cd ls hx hb hr hml hown hts hlocks hP hK hl
  have hl : lv_has ls 2 [(0, .ref (E 0)), (1, .int (nI k))] := hl
  have hf9 : (Cond.fieldLink RX1 9 "StakeWeirs$Estuary" "table" "[I").before args s = true := hts _ (by decide +kernel)
  have hinX1 : ∀ w ∈ wsX10, w ∈ wsX1_tableEels := by decide +kernel
  refine lv_iload_n hx hb dX1_tableEels_0 rfl (lv_at hl 1 rfl) ?_
  refine lv_if_lt (tgt := 22) hx hb dX1_tableEels_1 (by decide) (fun c1 => ?_) (fun c1 => ?_)
  · exact absurd c1 (nI_nlt (a := k) (b := 0) (by omega) (by omega))
  · have d1 := Int32.not_lt.mp c1
    refine lv_iload_n hx hb dX1_tableEels_4 rfl (lv_at hl 1 rfl) ?_
    refine lv_aload_n hx hb dX1_tableEels_5 rfl (lv_at hl 0 rfl) ?_
    refine va_get (D := D) (ci := 1) (v := .ref (E 1)) (C := RX1) (T := TX1) (N := 10) hx hb hts hinX1 hown hK hP (0) rfl rfl 0 (by decide) hf9 (fun _ h9 => h9) rfl dX1_tableEels_6 ?_
    refine va_alen hx hb hK hP 1 0 (v := nI 7) rfl rfl rfl dX1_tableEels_9 ?_
    refine lv_icmp_ge (tgt := 22) hx hb dX1_tableEels_10 (by decide) (fun c2 => ?_) (fun c2 => ?_)
    · exact absurd c2 (nI_ge (a := k) (b := 7) (by omega) (by omega))
    · have d2 := Int32.not_le.mp c2
      refine lv_aload_n hx hb dX1_tableEels_13 rfl (lv_at hl 0 rfl) ?_
      refine va_get (D := D) (ci := 1) (v := .ref (E 1)) (C := RX1) (T := TX1) (N := 10) hx hb hts hinX1 hown hK hP (0) rfl rfl 0 (by decide) hf9 (fun _ h9 => h9) rfl dX1_tableEels_14 ?_
      refine lv_iload_n hx hb dX1_tableEels_17 rfl (lv_at hl 1 rfl) ?_
      refine z_ald hx hb hK hP 1 (f := t) rfl k rfl (by omega) (by decide) dX1_tableEels_18 ?_
      refine lv_goto (tgt := 23) hx hb dX1_tableEels_19 (by decide) ?_
      exact zR_i hx hb hr hlocks dX1_tableEels_23 rfl
set_option maxHeartbeats 4000000 in
set_option maxRecDepth 100000 in
theorem c_X1_isSeawardsOf (l : Launch) (D : va_G) (y : Nat → ClassId) (E : Nat → Nat) (t : Nat → Int32) (o : Nat → Nat) (q b : Fld) (c bc n : Nat) (ar fi re : Int32) (k : Nat) (x : Int32) (hk : k < c) (hc : c ≤ 6) : zR l yX1_isSeawardsOf wsX1_isSeawardsOf { frames := 1, cells := 0, slots := 0, locals := 22 } D y [.ref (E 0), .int (nI k), .int x] (eW E y t o q b c bc n ar fi re) (some (.int (zb (decide (q 0 k < x))))) := by
  refine zR.of (cc := cX1_isSeawardsOf) (maxL := 4) (ret := (some .boolean)) (own := RX1) (by decide) rfl (Nat.le_of_ble_eq_true rfl) rfl ?_
  intro p e s m args below meth cd ls hx hb hr hml hown hts hlocks hP hK hl
  have hl : lv_has ls 4 [(0, .ref (E 0)), (1, .int (nI k)), (2, .int x)] := hl
  have hf93 : (Cond.fieldLink RX1 93 "StakeWeirs$Weir" "place" "I").before args s = true := hts _ (by decide +kernel)
  have hinX2 : ∀ w ∈ wsX20, w ∈ wsX1_isSeawardsOf := by decide +kernel
  refine lv_aload_n hx hb dX1_isSeawardsOf_0 rfl (lv_at hl 0 rfl) ?_
  refine lv_iload_n hx hb dX1_isSeawardsOf_1 rfl (lv_at hl 1 rfl) ?_
  refine zcRV (As := [.int (nI k)]) (rest := []) (st1 := [.ref (E (5 + k))]) ⟨hx, hb, hml, hown, hts⟩ (c_X1_weirAt l D y E t o q b c bc n ar fi re k (by omega) (by omega)) (cwV 1 hts gX1_isSeawardsOf_X1_weirAt rfl rfl rfl (by decide +kernel) ⟨Nat.le_of_ble_eq_true rfl, Nat.le_of_ble_eq_true rfl⟩) hK hP (ci := 1) (q0 := 0) rfl rfl rfl rfl hl.1 rfl (lv_room (Nat.le_of_ble_eq_true rfl)) dX1_isSeawardsOf_2 ⟨Nat.le_of_ble_eq_true rfl, Nat.le_of_ble_eq_true rfl⟩ rfl ?_
  refine lv_astore_n (lv' := [(3, .ref (E (5 + k))), (0, .ref (E 0)), (1, .int (nI k)), (2, .int x)]) hx hb dX1_isSeawardsOf_5 rfl hl (by decide) rfl (fun ls hl => ?_)
  refine lv_aload_n hx hb dX1_isSeawardsOf_6 rfl (lv_at hl 0 rfl) ?_
  refine lv_ifnull hx hb dX1_isSeawardsOf_7 ?_
  refine lv_aload_n hx hb dX1_isSeawardsOf_10 rfl (lv_at hl 0 rfl) ?_
  refine va_get (D := D) (ci := 2) (v := .int ((q 0 k))) (C := RX2) (T := TX2) (N := 8) hx hb hts hinX2 hown hK hP (5 + k) (eW_w (by omega)) rfl 0 (by decide) hf93 (fun _ h9 => h9) rfl dX1_isSeawardsOf_11 ?_
  refine lv_iload_n hx hb dX1_isSeawardsOf_14 rfl (lv_at hl 3 rfl) ?_
  refine lv_icmp_ge (tgt := 22) hx hb dX1_isSeawardsOf_15 (by decide) (fun c1 => ?_) (fun c1 => ?_)
  · have d1 := Int32.not_lt.mpr c1
    refine lv_iconst (v := 0) hx hb dX1_isSeawardsOf_22 (by decide) ?_
    exact zR_z hx hb hr hlocks dX1_isSeawardsOf_23 (Or.inl rfl) (by simp [zb, c1, d1])
  · have d1 := Int32.not_le.mp c1
    refine lv_iconst (v := 1) hx hb dX1_isSeawardsOf_18 (by decide) ?_
    refine lv_goto (tgt := 23) hx hb dX1_isSeawardsOf_19 (by decide) ?_
    exact zR_z hx hb hr hlocks dX1_isSeawardsOf_23 (Or.inr rfl) (by simp [zb, c1, d1])
set_option maxHeartbeats 4000000 in
set_option maxRecDepth 100000 in
theorem c_X1_moon (l : Launch) (D : va_G) (y : Nat → ClassId) (E : Nat → Nat) (t : Nat → Int32) (o : Nat → Nat) (q b : Fld) (c bc n : Nat) (ar fi re : Int32) (hn : n < 2147483648) : zR l yX1_moon wsX1_moon { frames := 1, cells := 0, slots := 0, locals := 22 } D y [.ref (E 0)] (eW E y t o q b c bc n ar fi re) (some (.int (moonI n))) := by
  refine zR.of (cc := cX1_moon) (maxL := 2) (ret := (some .int)) (own := RX1) (by decide) rfl (Nat.le_of_ble_eq_true rfl) rfl ?_
  intro p e s m args below meth cd ls hx hb hr hml hown hts hlocks hP hK hl
  have hl : lv_has ls 2 [(0, .ref (E 0))] := hl
  have hf62 : (Cond.fieldLink RX1 62 "StakeWeirs$Estuary" "night" "I").before args s = true := hts _ (by decide +kernel)
  have hinX1 : ∀ w ∈ wsX10, w ∈ wsX1_moon := by decide +kernel
  refine lv_aload_n hx hb dX1_moon_0 rfl (lv_at hl 0 rfl) ?_
  refine va_get (D := D) (ci := 1) (v := .int (nI n)) (C := RX1) (T := TX1) (N := 10) hx hb hts hinX1 hown hK hP (0) rfl rfl 6 (by decide) hf62 (fun _ h9 => h9) rfl dX1_moon_1 ?_
  refine lv_bipush (v := 28) hx hb dX1_moon_4 (by decide) ?_
  refine zcRS (As := [.int (nI n), .int 28]) (rest := []) (st1 := [.int (nI (n % 28))]) ⟨hx, hb, hml, hown, hts⟩ (c_J9_floorMod_7cf53 l D y n 28 (by omega) (by omega) (by omega)) (va_cwS 2 hts gX1_moon_J9_floorMod_7cf53 rfl rfl rfl (by decide +kernel) ⟨Nat.le_of_ble_eq_true rfl, Nat.le_of_ble_eq_true rfl⟩) hK va_P_nil rfl hl.1 rfl (lv_room (Nat.le_of_ble_eq_true rfl)) dX1_moon_6 ⟨Nat.le_of_ble_eq_true rfl, Nat.le_of_ble_eq_true rfl⟩ rfl ?_
  refine lv_istore_n (lv' := [(1, .int (nI (n % 28))), (0, .ref (E 0))]) hx hb dX1_moon_9 rfl hl (by decide) rfl (fun ls hl => ?_)
  refine lv_iload_n hx hb dX1_moon_10 rfl (lv_at hl 0 rfl) ?_
  refine lv_iconst (v := 3) hx hb dX1_moon_11 (by decide) ?_
  refine lv_icmp_le (tgt := 21) hx hb dX1_moon_12 (by decide) (fun c1 => ?_) (fun c1 => ?_)
  · have d1 := Int32.not_lt.mpr c1
    refine lv_iconst (v := 0) hx hb dX1_moon_21 (by decide) ?_
    exact zR_i hx hb hr hlocks dX1_moon_22 (by simp [moonI, moonD, c1, d1])
  · have d1 := Int32.not_le.mp c1
    refine lv_iload_n hx hb dX1_moon_15 rfl (lv_at hl 0 rfl) ?_
    refine lv_bipush (v := 25) hx hb dX1_moon_16 (by decide) ?_
    refine lv_icmp_lt (tgt := 23) hx hb dX1_moon_18 (by decide) (fun c2 => ?_) (fun c2 => ?_)
    · have d2 := Int32.not_le.mpr c2
      refine lv_iload_n hx hb dX1_moon_23 rfl (lv_at hl 0 rfl) ?_
      refine lv_bipush (v := 9) hx hb dX1_moon_24 (by decide) ?_
      refine lv_icmp_le (tgt := 35) hx hb dX1_moon_26 (by decide) (fun c3 => ?_) (fun c3 => ?_)
      · have d3 := Int32.not_lt.mpr c3
        refine lv_iconst (v := 1) hx hb dX1_moon_35 (by decide) ?_
        refine lv_goto (tgt := 40) hx hb dX1_moon_36 (by decide) ?_
        exact zR_i hx hb hr hlocks dX1_moon_40 (by simp [moonI, moonD, c1, d1, c2, d2, c3, d3])
      · have d3 := Int32.not_le.mp c3
        refine lv_iload_n hx hb dX1_moon_29 rfl (lv_at hl 0 rfl) ?_
        refine lv_bipush (v := 19) hx hb dX1_moon_30 (by decide) ?_
        refine lv_icmp_lt (tgt := 39) hx hb dX1_moon_32 (by decide) (fun c4 => ?_) (fun c4 => ?_)
        · have d4 := Int32.not_le.mpr c4
          refine lv_iconst (v := 2) hx hb dX1_moon_39 (by decide) ?_
          exact zR_i hx hb hr hlocks dX1_moon_40 (by simp [moonI, moonD, c1, d1, c2, d2, c3, d3, c4, d4])
        · have d4 := Int32.not_lt.mp c4
          refine lv_iconst (v := 1) hx hb dX1_moon_35 (by decide) ?_
          refine lv_goto (tgt := 40) hx hb dX1_moon_36 (by decide) ?_
          exact zR_i hx hb hr hlocks dX1_moon_40 (by simp [moonI, moonD, c1, d1, c2, d2, c3, d3, c4, d4])
    · have d2 := Int32.not_lt.mp c2
      refine lv_iconst (v := 0) hx hb dX1_moon_21 (by decide) ?_
      exact zR_i hx hb hr hlocks dX1_moon_22 (by simp [moonI, moonD, c1, d1, c2, d2])
set_option maxHeartbeats 4000000 in
set_option maxRecDepth 100000 in
theorem c_X1_run (l : Launch) (D : va_G) (y : Nat → ClassId) (E : Nat → Nat) (t : Nat → Int32) (o : Nat → Nat) (q b : Fld) (c bc n : Nat) (ar fi re : Int32) (hn : n < 2147483648) : zR l yX1_run wsX1_run { frames := 2, cells := 0, slots := 0, locals := 43 } D y [.ref (E 0)] (eW E y t o q b c bc n ar fi re) (some (.int (runI t n))) := by
  refine zR.of (cc := cX1_run) (maxL := 3) (ret := (some .int)) (own := RX1) (by decide) rfl (Nat.le_of_ble_eq_true rfl) rfl ?_
  intro p e s m args below meth cd ls hx hb hr hml hown hts hlocks hP hK hl
  have hl : lv_has ls 3 [(0, .ref (E 0))] := hl
  have hf62 : (Cond.fieldLink RX1 62 "StakeWeirs$Estuary" "night" "I").before args s = true := hts _ (by decide +kernel)
  have hinX1 : ∀ w ∈ wsX10, w ∈ wsX1_run := by decide +kernel
  refine lv_aload_n hx hb dX1_run_0 rfl (lv_at hl 0 rfl) ?_
  refine lv_aload_n hx hb dX1_run_1 rfl (lv_at hl 0 rfl) ?_
  refine va_get (D := D) (ci := 1) (v := .int (nI n)) (C := RX1) (T := TX1) (N := 10) hx hb hts hinX1 hown hK hP (0) rfl rfl 6 (by decide) hf62 (fun _ h9 => h9) rfl dX1_run_2 ?_
  refine lv_bipush (v := 7) hx hb dX1_run_5 (by decide) ?_
  refine zcRS (As := [.int (nI n), .int 7]) (rest := [.ref (E 0)]) (st1 := [.int (nI (n % 7)), .ref (E 0)]) ⟨hx, hb, hml, hown, hts⟩ (c_J9_floorMod_7cf53 l D y n 7 (by omega) (by omega) (by omega)) (va_cwS 2 hts gX1_run_J9_floorMod_7cf53 rfl rfl rfl (by decide +kernel) ⟨Nat.le_of_ble_eq_true rfl, Nat.le_of_ble_eq_true rfl⟩) hK va_P_nil rfl hl.1 rfl (lv_room (Nat.le_of_ble_eq_true rfl)) dX1_run_7 ⟨Nat.le_of_ble_eq_true rfl, Nat.le_of_ble_eq_true rfl⟩ rfl ?_
  refine zcRV (As := [.int (nI (n % 7))]) (rest := []) (st1 := [.int ((t (n % 7)))]) ⟨hx, hb, hml, hown, hts⟩ (c_X1_tableEels l D y E t o q b c bc n ar fi re (n % 7) (by omega)) (cwV 1 hts gX1_run_X1_tableEels rfl rfl rfl (by decide +kernel) ⟨Nat.le_of_ble_eq_true rfl, Nat.le_of_ble_eq_true rfl⟩) hK hP (ci := 1) (q0 := 0) rfl rfl rfl rfl hl.1 rfl (lv_room (Nat.le_of_ble_eq_true rfl)) dX1_run_10 ⟨Nat.le_of_ble_eq_true rfl, Nat.le_of_ble_eq_true rfl⟩ rfl ?_
  refine lv_istore_n (lv' := [(1, .int ((t (n % 7)))), (0, .ref (E 0))]) hx hb dX1_run_13 rfl hl (by decide) rfl (fun ls hl => ?_)
  refine lv_aload_n hx hb dX1_run_14 rfl (lv_at hl 1 rfl) ?_
  refine zcRV (As := []) (rest := []) (st1 := [.int ((moonI n))]) ⟨hx, hb, hml, hown, hts⟩ (c_X1_moon l D y E t o q b c bc n ar fi re  (by omega)) (cwV 0 hts gX1_run_X1_moon rfl rfl rfl (by decide +kernel) ⟨Nat.le_of_ble_eq_true rfl, Nat.le_of_ble_eq_true rfl⟩) hK hP (ci := 1) (q0 := 0) rfl rfl rfl rfl hl.1 rfl (lv_room (Nat.le_of_ble_eq_true rfl)) dX1_run_15 ⟨Nat.le_of_ble_eq_true rfl, Nat.le_of_ble_eq_true rfl⟩ rfl ?_
  refine lv_istore_n (lv' := [(2, .int ((moonI n))), (1, .int ((t (n % 7)))), (0, .ref (E 0))]) hx hb dX1_run_18 rfl hl (by decide) rfl (fun ls hl => ?_)
  refine lv_iload_n hx hb dX1_run_19 rfl (lv_at hl 0 rfl) ?_
  refine lv_if_ne (tgt := 27) hx hb dX1_run_20 (by decide) (fun c1 => ?_) (fun c1 => ?_)
  · have d1 := c1
    refine lv_iload_n hx hb dX1_run_27 rfl (lv_at hl 0 rfl) ?_
    refine lv_iconst (v := 1) hx hb dX1_run_28 (by decide) ?_
    refine lv_icmp_ne (tgt := 38) hx hb dX1_run_29 (by decide) (fun c2 => ?_) (fun c2 => ?_)
    · have d2 := c2
      refine lv_iload_n hx hb dX1_run_38 rfl (lv_at hl 1 rfl) ?_
      exact zR_i hx hb hr hlocks dX1_run_39 (by simp [runI, c1, d1, c2, d2])
    · have d2 := c2
      refine lv_iconst (v := 2) hx hb dX1_run_32 (by decide) ?_
      refine lv_iload_n hx hb dX1_run_33 rfl (lv_at hl 1 rfl) ?_
      refine lv_imul hx hb dX1_run_34 ?_
      refine lv_goto (tgt := 39) hx hb dX1_run_35 (by decide) ?_
      exact zR_i hx hb hr hlocks dX1_run_39 (by simp [runI, c1, d1, c2, d2])
  · have d1 := c1
    refine lv_iconst (v := 3) hx hb dX1_run_23 (by decide) ?_
    refine lv_iload_n hx hb dX1_run_24 rfl (lv_at hl 1 rfl) ?_
    refine lv_imul hx hb dX1_run_25 ?_
    exact zR_i hx hb hr hlocks dX1_run_26 (by simp [runI, c1, d1])
theorem heldN_s (q : Fld) (c : Nat) : heldN q (c + 1) = (if heldB q c = true then heldN q c + 1 else heldN q c) := rfl
theorem wattleN_s (q : Fld) (c : Nat) : wattleN q (c + 1) = (if heldB q c = true then wattleN q c + q 2 c else wattleN q c) := rfl
theorem eelsN_s (q : Fld) (c : Nat) : eelsN q (c + 1) = eelsN q c + q 5 c := rfl
theorem wayN_s (q : Fld) (c : Nat) (w : Int32) : wayN q (c + 1) w = (if wayB q c w = true then wayN q c w + 1 else wayN q c w) := rfl
theorem richE_s (q : Fld) (c : Nat) : richE q (c + 1) = richS q c (richE q c) := rfl
theorem nextE_s (q : Fld) (c : Nat) (bp bw : Int32) : nextE q (c + 1) bp bw = nextS q bp bw c (nextE q c bp bw) := rfl
def underE (b : Fld) : Nat → Int32 → Bool
  | 0, _ => false
  | n + 1, x => underE b n x || decide (b 0 n = x)
set_option maxHeartbeats 4000000 in
set_option maxRecDepth 100000 in
theorem c_X1_heldWeirs (l : Launch) (D : va_G) (y : Nat → ClassId) (E : Nat → Nat) (t : Nat → Int32) (o : Nat → Nat) (q b : Fld) (c bc n : Nat) (ar fi re : Int32) (hc : c ≤ 6) : zR l yX1_heldWeirs wsX1_heldWeirs { frames := 1, cells := 0, slots := 0, locals := 22 } D y [.ref (E 0)] (eW E y t o q b c bc n ar fi re) (some (.int (heldN q c))) := by
  refine zR.of (cc := cX1_heldWeirs) (maxL := 4) (ret := (some .int)) (own := RX1) (by decide) rfl (Nat.le_of_ble_eq_true rfl) rfl ?_
  intro p e s m args below meth cd ls hx hb hr hml hown hts hlocks hP hK hl
  have hl : lv_has ls 4 [(0, .ref (E 0))] := hl
  have hf39 : (Cond.fieldLink RX1 39 "StakeWeirs$Estuary" "weirCount" "I").before args s = true := hts _ (by decide +kernel)
  have hinX1 : ∀ w ∈ wsX10, w ∈ wsX1_heldWeirs := by decide +kernel
  refine lv_iconst (v := 0) hx hb dX1_heldWeirs_0 (by decide) ?_
  refine lv_istore_n (lv' := [(1, .int 0), (0, .ref (E 0))]) hx hb dX1_heldWeirs_1 rfl hl (by decide) rfl (fun ls hl => ?_)
  refine lv_iconst (v := 0) hx hb dX1_heldWeirs_2 (by decide) ?_
  refine lv_istore_n (lv' := [(2, .int 0), (1, .int 0), (0, .ref (E 0))]) hx hb dX1_heldWeirs_3 rfl hl (by decide) rfl (fun ls hl => ?_)
  have loop1 : ∀ k, k ≤ c → ∀ (ls : Array Slot), lv_has ls 4 [(2, .int (nI k)), (1, .int (heldN q k)), (0, .ref (E 0))] → W p l e ({ frames := 1, cells := 0, slots := 0, locals := 22 } : Room) s m args below meth cd s.heap [] 0 0 (MQ below (zRQ (some (.int (heldN q c)))) args s 0 0 (fun _ => False)) (F0 m 4 ls []) := by
    refine down ?_ ?_
    · intro ls hl
      refine lv_iload_n hx hb dX1_heldWeirs_4 rfl (lv_at hl 0 rfl) ?_
      refine lv_aload_n hx hb dX1_heldWeirs_5 rfl (lv_at hl 2 rfl) ?_
      refine va_get (D := D) (ci := 1) (v := .int (nI c)) (C := RX1) (T := TX1) (N := 10) hx hb hts hinX1 hown hK hP (0) rfl rfl 4 (by decide) hf39 (fun _ h9 => h9) rfl dX1_heldWeirs_6 ?_
      refine lv_icmp_ge (tgt := 38) hx hb dX1_heldWeirs_9 (by decide) (fun c2 => ?_) (fun c2 => ?_)
      · have d2 := Int32.not_lt.mpr c2
        refine lv_iload_n hx hb dX1_heldWeirs_38 rfl (lv_at hl 1 rfl) ?_
        exact zR_i hx hb hr hlocks dX1_heldWeirs_39 rfl
      · exact absurd (nI_le (a := c) (b := c) (by omega) (by omega)) c2
    · intro k hkk ihk ls hl
      refine lv_iload_n hx hb dX1_heldWeirs_4 rfl (lv_at hl 0 rfl) ?_
      refine lv_aload_n hx hb dX1_heldWeirs_5 rfl (lv_at hl 2 rfl) ?_
      refine va_get (D := D) (ci := 1) (v := .int (nI c)) (C := RX1) (T := TX1) (N := 10) hx hb hts hinX1 hown hK hP (0) rfl rfl 4 (by decide) hf39 (fun _ h9 => h9) rfl dX1_heldWeirs_6 ?_
      refine lv_icmp_ge (tgt := 38) hx hb dX1_heldWeirs_9 (by decide) (fun c3 => ?_) (fun c3 => ?_)
      · exact absurd c3 (nI_ge (a := k) (b := c) (by omega) (by omega))
      · have d3 := Int32.not_le.mp c3
        refine lv_aload_n hx hb dX1_heldWeirs_12 rfl (lv_at hl 2 rfl) ?_
        refine lv_iload_n hx hb dX1_heldWeirs_13 rfl (lv_at hl 0 rfl) ?_
        refine zcRV (As := [.int (nI k)]) (rest := []) (st1 := [.ref (E (5 + k))]) ⟨hx, hb, hml, hown, hts⟩ (c_X1_weirAt l D y E t o q b c bc n ar fi re k (by omega) (by omega)) (cwV 1 hts gX1_heldWeirs_X1_weirAt rfl rfl rfl (by decide +kernel) ⟨Nat.le_of_ble_eq_true rfl, Nat.le_of_ble_eq_true rfl⟩) hK hP (ci := 1) (q0 := 0) rfl rfl rfl rfl hl.1 rfl (lv_room (Nat.le_of_ble_eq_true rfl)) dX1_heldWeirs_14 ⟨Nat.le_of_ble_eq_true rfl, Nat.le_of_ble_eq_true rfl⟩ rfl ?_
        refine lv_astore_n (lv' := [(3, .ref (E (5 + k))), (2, .int (nI k)), (1, .int (heldN q k)), (0, .ref (E 0))]) hx hb dX1_heldWeirs_17 rfl hl (by decide) rfl (fun ls hl => ?_)
        refine lv_aload_n hx hb dX1_heldWeirs_18 rfl (lv_at hl 0 rfl) ?_
        refine lv_ifnull hx hb dX1_heldWeirs_19 ?_
        refine lv_aload_n hx hb dX1_heldWeirs_22 rfl (lv_at hl 0 rfl) ?_
        refine zcRV (As := []) (rest := []) (st1 := [.int (zb (heldB q k))]) ⟨hx, hb, hml, hown, hts⟩ (c_X2_isHeld l D y (E (5 + k)) q k) (cwV 0 hts gX1_heldWeirs_X2_isHeld rfl rfl rfl (by decide +kernel) ⟨Nat.le_of_ble_eq_true rfl, Nat.le_of_ble_eq_true rfl⟩) hK (z_sub_P hP (z_in_1 (k := 5 + k) (eW_w (by omega)))) (ci := 2) (q0 := 0) rfl rfl rfl rfl hl.1 rfl (lv_room (Nat.le_of_ble_eq_true rfl)) dX1_heldWeirs_23 ⟨Nat.le_of_ble_eq_true rfl, Nat.le_of_ble_eq_true rfl⟩ rfl ?_
        refine lv_if_eq (tgt := 32) hx hb dX1_heldWeirs_26 (by decide) (fun c4 => ?_) (fun c4 => ?_)
        · have c4 : heldB q k = false := zb_f c4
          refine lv_iinc (v := nI (k + 1)) (lv' := [(2, .int (nI (k + 1))), (3, .ref (E (5 + k))), (1, .int (heldN q k)), (0, .ref (E 0))]) hx hb dX1_heldWeirs_32 hl (k := 1) rfl (nI_1 _) (by decide) rfl (fun ls hl => ?_)
          refine lv_goto (tgt := 4) hx hb dX1_heldWeirs_35 (by decide) ?_
          have e5 : heldN q (k + 1) = heldN q k := by simp [heldN_s, c4]
          refine ihk ls ?_
          simp only [e5]
          exact lv_sub hl [0, 2, 3] rfl
        · have c4 : heldB q k = true := zb_t c4
          refine lv_iinc (v := (heldN q k + 1)) (lv' := [(1, .int ((heldN q k + 1))), (3, .ref (E (5 + k))), (2, .int (nI k)), (0, .ref (E 0))]) hx hb dX1_heldWeirs_29 hl (k := 2) rfl rfl (by decide) rfl (fun ls hl => ?_)
          refine lv_iinc (v := nI (k + 1)) (lv' := [(2, .int (nI (k + 1))), (1, .int ((heldN q k + 1))), (3, .ref (E (5 + k))), (0, .ref (E 0))]) hx hb dX1_heldWeirs_32 hl (k := 2) rfl (nI_1 _) (by decide) rfl (fun ls hl => ?_)
          refine lv_goto (tgt := 4) hx hb dX1_heldWeirs_35 (by decide) ?_
          have e6 : heldN q (k + 1) = (heldN q k + 1) := by simp [heldN_s, c4]
          refine ihk ls ?_
          simp only [e6]
          exact lv_sub hl [0, 1, 3] rfl
  exact loop1 0 (Nat.zero_le _) ls (lv_sub hl [0, 1, 2] rfl)
set_option maxHeartbeats 4000000 in
set_option maxRecDepth 100000 in
theorem c_X1_heldWattle (l : Launch) (D : va_G) (y : Nat → ClassId) (E : Nat → Nat) (t : Nat → Int32) (o : Nat → Nat) (q b : Fld) (c bc n : Nat) (ar fi re : Int32) (hc : c ≤ 6) : zR l yX1_heldWattle wsX1_heldWattle { frames := 1, cells := 0, slots := 0, locals := 22 } D y [.ref (E 0)] (eW E y t o q b c bc n ar fi re) (some (.int (wattleN q c))) := by
  refine zR.of (cc := cX1_heldWattle) (maxL := 4) (ret := (some .int)) (own := RX1) (by decide) rfl (Nat.le_of_ble_eq_true rfl) rfl ?_
  intro p e s m args below meth cd ls hx hb hr hml hown hts hlocks hP hK hl
  have hl : lv_has ls 4 [(0, .ref (E 0))] := hl
  have hf39 : (Cond.fieldLink RX1 39 "StakeWeirs$Estuary" "weirCount" "I").before args s = true := hts _ (by decide +kernel)
  have hinX1 : ∀ w ∈ wsX10, w ∈ wsX1_heldWattle := by decide +kernel
  have hf135 : (Cond.fieldLink RX1 135 "StakeWeirs$Weir" "wattle" "I").before args s = true := hts _ (by decide +kernel)
  have hinX2 : ∀ w ∈ wsX20, w ∈ wsX1_heldWattle := by decide +kernel
  refine lv_iconst (v := 0) hx hb dX1_heldWattle_0 (by decide) ?_
  refine lv_istore_n (lv' := [(1, .int 0), (0, .ref (E 0))]) hx hb dX1_heldWattle_1 rfl hl (by decide) rfl (fun ls hl => ?_)
  refine lv_iconst (v := 0) hx hb dX1_heldWattle_2 (by decide) ?_
  refine lv_istore_n (lv' := [(2, .int 0), (1, .int 0), (0, .ref (E 0))]) hx hb dX1_heldWattle_3 rfl hl (by decide) rfl (fun ls hl => ?_)
  have loop1 : ∀ k, k ≤ c → ∀ (ls : Array Slot), lv_has ls 4 [(2, .int (nI k)), (1, .int (wattleN q k)), (0, .ref (E 0))] → W p l e ({ frames := 1, cells := 0, slots := 0, locals := 22 } : Room) s m args below meth cd s.heap [] 0 0 (MQ below (zRQ (some (.int (wattleN q c)))) args s 0 0 (fun _ => False)) (F0 m 4 ls []) := by
    refine down ?_ ?_
    · intro ls hl
      refine lv_iload_n hx hb dX1_heldWattle_4 rfl (lv_at hl 0 rfl) ?_
      refine lv_aload_n hx hb dX1_heldWattle_5 rfl (lv_at hl 2 rfl) ?_
      refine va_get (D := D) (ci := 1) (v := .int (nI c)) (C := RX1) (T := TX1) (N := 10) hx hb hts hinX1 hown hK hP (0) rfl rfl 4 (by decide) hf39 (fun _ h9 => h9) rfl dX1_heldWattle_6 ?_
      refine lv_icmp_ge (tgt := 42) hx hb dX1_heldWattle_9 (by decide) (fun c2 => ?_) (fun c2 => ?_)
      · have d2 := Int32.not_lt.mpr c2
        refine lv_iload_n hx hb dX1_heldWattle_42 rfl (lv_at hl 1 rfl) ?_
        exact zR_i hx hb hr hlocks dX1_heldWattle_43 rfl
      · exact absurd (nI_le (a := c) (b := c) (by omega) (by omega)) c2
    · intro k hkk ihk ls hl
      refine lv_iload_n hx hb dX1_heldWattle_4 rfl (lv_at hl 0 rfl) ?_
      refine lv_aload_n hx hb dX1_heldWattle_5 rfl (lv_at hl 2 rfl) ?_
      refine va_get (D := D) (ci := 1) (v := .int (nI c)) (C := RX1) (T := TX1) (N := 10) hx hb hts hinX1 hown hK hP (0) rfl rfl 4 (by decide) hf39 (fun _ h9 => h9) rfl dX1_heldWattle_6 ?_
      refine lv_icmp_ge (tgt := 42) hx hb dX1_heldWattle_9 (by decide) (fun c3 => ?_) (fun c3 => ?_)
      · exact absurd c3 (nI_ge (a := k) (b := c) (by omega) (by omega))
      · have d3 := Int32.not_le.mp c3
        refine lv_aload_n hx hb dX1_heldWattle_12 rfl (lv_at hl 2 rfl) ?_
        refine lv_iload_n hx hb dX1_heldWattle_13 rfl (lv_at hl 0 rfl) ?_
        refine zcRV (As := [.int (nI k)]) (rest := []) (st1 := [.ref (E (5 + k))]) ⟨hx, hb, hml, hown, hts⟩ (c_X1_weirAt l D y E t o q b c bc n ar fi re k (by omega) (by omega)) (cwV 1 hts gX1_heldWattle_X1_weirAt rfl rfl rfl (by decide +kernel) ⟨Nat.le_of_ble_eq_true rfl, Nat.le_of_ble_eq_true rfl⟩) hK hP (ci := 1) (q0 := 0) rfl rfl rfl rfl hl.1 rfl (lv_room (Nat.le_of_ble_eq_true rfl)) dX1_heldWattle_14 ⟨Nat.le_of_ble_eq_true rfl, Nat.le_of_ble_eq_true rfl⟩ rfl ?_
        refine lv_astore_n (lv' := [(3, .ref (E (5 + k))), (2, .int (nI k)), (1, .int (wattleN q k)), (0, .ref (E 0))]) hx hb dX1_heldWattle_17 rfl hl (by decide) rfl (fun ls hl => ?_)
        refine lv_aload_n hx hb dX1_heldWattle_18 rfl (lv_at hl 0 rfl) ?_
        refine lv_ifnull hx hb dX1_heldWattle_19 ?_
        refine lv_aload_n hx hb dX1_heldWattle_22 rfl (lv_at hl 0 rfl) ?_
        refine zcRV (As := []) (rest := []) (st1 := [.int (zb (heldB q k))]) ⟨hx, hb, hml, hown, hts⟩ (c_X2_isHeld l D y (E (5 + k)) q k) (cwV 0 hts gX1_heldWattle_X2_isHeld rfl rfl rfl (by decide +kernel) ⟨Nat.le_of_ble_eq_true rfl, Nat.le_of_ble_eq_true rfl⟩) hK (z_sub_P hP (z_in_1 (k := 5 + k) (eW_w (by omega)))) (ci := 2) (q0 := 0) rfl rfl rfl rfl hl.1 rfl (lv_room (Nat.le_of_ble_eq_true rfl)) dX1_heldWattle_23 ⟨Nat.le_of_ble_eq_true rfl, Nat.le_of_ble_eq_true rfl⟩ rfl ?_
        refine lv_if_eq (tgt := 36) hx hb dX1_heldWattle_26 (by decide) (fun c4 => ?_) (fun c4 => ?_)
        · have c4 : heldB q k = false := zb_f c4
          refine lv_iinc (v := nI (k + 1)) (lv' := [(2, .int (nI (k + 1))), (3, .ref (E (5 + k))), (1, .int (wattleN q k)), (0, .ref (E 0))]) hx hb dX1_heldWattle_36 hl (k := 1) rfl (nI_1 _) (by decide) rfl (fun ls hl => ?_)
          refine lv_goto (tgt := 4) hx hb dX1_heldWattle_39 (by decide) ?_
          have e5 : wattleN q (k + 1) = wattleN q k := by simp [wattleN_s, c4]
          refine ihk ls ?_
          simp only [e5]
          exact lv_sub hl [0, 2, 3] rfl
        · have c4 : heldB q k = true := zb_t c4
          refine lv_iload_n hx hb dX1_heldWattle_29 rfl (lv_at hl 2 rfl) ?_
          refine lv_aload_n hx hb dX1_heldWattle_30 rfl (lv_at hl 0 rfl) ?_
          refine va_get (D := D) (ci := 2) (v := .int ((q 2 k))) (C := RX2) (T := TX2) (N := 8) hx hb hts hinX2 hown hK hP (5 + k) (eW_w (by omega)) rfl 2 (by decide) hf135 (fun _ h9 => h9) rfl dX1_heldWattle_31 ?_
          refine lv_iadd hx hb dX1_heldWattle_34 ?_
          refine lv_istore_n (lv' := [(1, .int ((wattleN q k + (q 2 k)))), (3, .ref (E (5 + k))), (2, .int (nI k)), (0, .ref (E 0))]) hx hb dX1_heldWattle_35 rfl hl (by decide) rfl (fun ls hl => ?_)
          refine lv_iinc (v := nI (k + 1)) (lv' := [(2, .int (nI (k + 1))), (1, .int ((wattleN q k + (q 2 k)))), (3, .ref (E (5 + k))), (0, .ref (E 0))]) hx hb dX1_heldWattle_36 hl (k := 2) rfl (nI_1 _) (by decide) rfl (fun ls hl => ?_)
          refine lv_goto (tgt := 4) hx hb dX1_heldWattle_39 (by decide) ?_
          have e6 : wattleN q (k + 1) = (wattleN q k + (q 2 k)) := by simp [wattleN_s, c4]
          refine ihk ls ?_
          simp only [e6]
          exact lv_sub hl [0, 1, 3] rfl
  exact loop1 0 (Nat.zero_le _) ls (lv_sub hl [0, 1, 2] rfl)
set_option maxHeartbeats 4000000 in
set_option maxRecDepth 100000 in
theorem c_X1_allEels (l : Launch) (D : va_G) (y : Nat → ClassId) (E : Nat → Nat) (t : Nat → Int32) (o : Nat → Nat) (q b : Fld) (c bc n : Nat) (ar fi re : Int32) (hc : c ≤ 6) : zR l yX1_allEels wsX1_allEels { frames := 1, cells := 0, slots := 0, locals := 22 } D y [.ref (E 0)] (eW E y t o q b c bc n ar fi re) (some (.int (eelsN q c))) := by
  refine zR.of (cc := cX1_allEels) (maxL := 4) (ret := (some .int)) (own := RX1) (by decide) rfl (Nat.le_of_ble_eq_true rfl) rfl ?_
  intro p e s m args below meth cd ls hx hb hr hml hown hts hlocks hP hK hl
  have hl : lv_has ls 4 [(0, .ref (E 0))] := hl
  have hf39 : (Cond.fieldLink RX1 39 "StakeWeirs$Estuary" "weirCount" "I").before args s = true := hts _ (by decide +kernel)
  have hinX1 : ∀ w ∈ wsX10, w ∈ wsX1_allEels := by decide +kernel
  have hf138 : (Cond.fieldLink RX1 138 "StakeWeirs$Weir" "eels" "I").before args s = true := hts _ (by decide +kernel)
  have hinX2 : ∀ w ∈ wsX20, w ∈ wsX1_allEels := by decide +kernel
  refine lv_iconst (v := 0) hx hb dX1_allEels_0 (by decide) ?_
  refine lv_istore_n (lv' := [(1, .int 0), (0, .ref (E 0))]) hx hb dX1_allEels_1 rfl hl (by decide) rfl (fun ls hl => ?_)
  refine lv_iconst (v := 0) hx hb dX1_allEels_2 (by decide) ?_
  refine lv_istore_n (lv' := [(2, .int 0), (1, .int 0), (0, .ref (E 0))]) hx hb dX1_allEels_3 rfl hl (by decide) rfl (fun ls hl => ?_)
  have loop1 : ∀ k, k ≤ c → ∀ (ls : Array Slot), lv_has ls 4 [(2, .int (nI k)), (1, .int (eelsN q k)), (0, .ref (E 0))] → W p l e ({ frames := 1, cells := 0, slots := 0, locals := 22 } : Room) s m args below meth cd s.heap [] 0 0 (MQ below (zRQ (some (.int (eelsN q c)))) args s 0 0 (fun _ => False)) (F0 m 4 ls []) := by
    refine down ?_ ?_
    · intro ls hl
      refine lv_iload_n hx hb dX1_allEels_4 rfl (lv_at hl 0 rfl) ?_
      refine lv_aload_n hx hb dX1_allEels_5 rfl (lv_at hl 2 rfl) ?_
      refine va_get (D := D) (ci := 1) (v := .int (nI c)) (C := RX1) (T := TX1) (N := 10) hx hb hts hinX1 hown hK hP (0) rfl rfl 4 (by decide) hf39 (fun _ h9 => h9) rfl dX1_allEels_6 ?_
      refine lv_icmp_ge (tgt := 35) hx hb dX1_allEels_9 (by decide) (fun c2 => ?_) (fun c2 => ?_)
      · have d2 := Int32.not_lt.mpr c2
        refine lv_iload_n hx hb dX1_allEels_35 rfl (lv_at hl 1 rfl) ?_
        exact zR_i hx hb hr hlocks dX1_allEels_36 rfl
      · exact absurd (nI_le (a := c) (b := c) (by omega) (by omega)) c2
    · intro k hkk ihk ls hl
      refine lv_iload_n hx hb dX1_allEels_4 rfl (lv_at hl 0 rfl) ?_
      refine lv_aload_n hx hb dX1_allEels_5 rfl (lv_at hl 2 rfl) ?_
      refine va_get (D := D) (ci := 1) (v := .int (nI c)) (C := RX1) (T := TX1) (N := 10) hx hb hts hinX1 hown hK hP (0) rfl rfl 4 (by decide) hf39 (fun _ h9 => h9) rfl dX1_allEels_6 ?_
      refine lv_icmp_ge (tgt := 35) hx hb dX1_allEels_9 (by decide) (fun c3 => ?_) (fun c3 => ?_)
      · exact absurd c3 (nI_ge (a := k) (b := c) (by omega) (by omega))
      · have d3 := Int32.not_le.mp c3
        refine lv_aload_n hx hb dX1_allEels_12 rfl (lv_at hl 2 rfl) ?_
        refine lv_iload_n hx hb dX1_allEels_13 rfl (lv_at hl 0 rfl) ?_
        refine zcRV (As := [.int (nI k)]) (rest := []) (st1 := [.ref (E (5 + k))]) ⟨hx, hb, hml, hown, hts⟩ (c_X1_weirAt l D y E t o q b c bc n ar fi re k (by omega) (by omega)) (cwV 1 hts gX1_allEels_X1_weirAt rfl rfl rfl (by decide +kernel) ⟨Nat.le_of_ble_eq_true rfl, Nat.le_of_ble_eq_true rfl⟩) hK hP (ci := 1) (q0 := 0) rfl rfl rfl rfl hl.1 rfl (lv_room (Nat.le_of_ble_eq_true rfl)) dX1_allEels_14 ⟨Nat.le_of_ble_eq_true rfl, Nat.le_of_ble_eq_true rfl⟩ rfl ?_
        refine lv_astore_n (lv' := [(3, .ref (E (5 + k))), (2, .int (nI k)), (1, .int (eelsN q k)), (0, .ref (E 0))]) hx hb dX1_allEels_17 rfl hl (by decide) rfl (fun ls hl => ?_)
        refine lv_aload_n hx hb dX1_allEels_18 rfl (lv_at hl 0 rfl) ?_
        refine lv_ifnull hx hb dX1_allEels_19 ?_
        refine lv_iload_n hx hb dX1_allEels_22 rfl (lv_at hl 2 rfl) ?_
        refine lv_aload_n hx hb dX1_allEels_23 rfl (lv_at hl 0 rfl) ?_
        refine va_get (D := D) (ci := 2) (v := .int ((q 5 k))) (C := RX2) (T := TX2) (N := 8) hx hb hts hinX2 hown hK hP (5 + k) (eW_w (by omega)) rfl 5 (by decide) hf138 (fun _ h9 => h9) rfl dX1_allEels_24 ?_
        refine lv_iadd hx hb dX1_allEels_27 ?_
        refine lv_istore_n (lv' := [(1, .int ((eelsN q k + (q 5 k)))), (3, .ref (E (5 + k))), (2, .int (nI k)), (0, .ref (E 0))]) hx hb dX1_allEels_28 rfl hl (by decide) rfl (fun ls hl => ?_)
        refine lv_iinc (v := nI (k + 1)) (lv' := [(2, .int (nI (k + 1))), (1, .int ((eelsN q k + (q 5 k)))), (3, .ref (E (5 + k))), (0, .ref (E 0))]) hx hb dX1_allEels_29 hl (k := 2) rfl (nI_1 _) (by decide) rfl (fun ls hl => ?_)
        refine lv_goto (tgt := 4) hx hb dX1_allEels_32 (by decide) ?_
        have e4 : eelsN q (k + 1) = (eelsN q k + (q 5 k)) := by simp [eelsN_s]
        refine ihk ls ?_
        simp only [e4]
        exact lv_sub hl [0, 1, 3] rfl
  exact loop1 0 (Nat.zero_le _) ls (lv_sub hl [0, 1, 2] rfl)
set_option maxHeartbeats 4000000 in
set_option maxRecDepth 100000 in
theorem c_X1_weirsInWay (l : Launch) (D : va_G) (y : Nat → ClassId) (E : Nat → Nat) (t : Nat → Int32) (o : Nat → Nat) (q b : Fld) (c bc n : Nat) (ar fi re : Int32) (x : Int32) (hc : c ≤ 6) : zR l yX1_weirsInWay wsX1_weirsInWay { frames := 2, cells := 0, slots := 0, locals := 41 } D y [.ref (E 0), .int x] (eW E y t o q b c bc n ar fi re) (some (.int (wayN q c x))) := by
  refine zR.of (cc := cX1_weirsInWay) (maxL := 5) (ret := (some .int)) (own := RX1) (by decide) rfl (Nat.le_of_ble_eq_true rfl) rfl ?_
  intro p e s m args below meth cd ls hx hb hr hml hown hts hlocks hP hK hl
  have hl : lv_has ls 5 [(0, .ref (E 0)), (1, .int x)] := hl
  have hf39 : (Cond.fieldLink RX1 39 "StakeWeirs$Estuary" "weirCount" "I").before args s = true := hts _ (by decide +kernel)
  have hinX1 : ∀ w ∈ wsX10, w ∈ wsX1_weirsInWay := by decide +kernel
  refine lv_iconst (v := 0) hx hb dX1_weirsInWay_0 (by decide) ?_
  refine lv_istore_n (lv' := [(2, .int 0), (0, .ref (E 0)), (1, .int x)]) hx hb dX1_weirsInWay_1 rfl hl (by decide) rfl (fun ls hl => ?_)
  refine lv_iconst (v := 0) hx hb dX1_weirsInWay_2 (by decide) ?_
  refine lv_istore_n (lv' := [(3, .int 0), (2, .int 0), (0, .ref (E 0)), (1, .int x)]) hx hb dX1_weirsInWay_3 rfl hl (by decide) rfl (fun ls hl => ?_)
  have loop1 : ∀ k, k ≤ c → ∀ (ls : Array Slot), lv_has ls 5 [(3, .int (nI k)), (2, .int (wayN q k x)), (0, .ref (E 0)), (1, .int x)] → W p l e ({ frames := 2, cells := 0, slots := 0, locals := 41 } : Room) s m args below meth cd s.heap [] 0 0 (MQ below (zRQ (some (.int (wayN q c x)))) args s 0 0 (fun _ => False)) (F0 m 4 ls []) := by
    refine down ?_ ?_
    · intro ls hl
      refine lv_iload_n hx hb dX1_weirsInWay_4 rfl (lv_at hl 0 rfl) ?_
      refine lv_aload_n hx hb dX1_weirsInWay_5 rfl (lv_at hl 2 rfl) ?_
      refine va_get (D := D) (ci := 1) (v := .int (nI c)) (C := RX1) (T := TX1) (N := 10) hx hb hts hinX1 hown hK hP (0) rfl rfl 4 (by decide) hf39 (fun _ h9 => h9) rfl dX1_weirsInWay_6 ?_
      refine lv_icmp_ge (tgt := 42) hx hb dX1_weirsInWay_9 (by decide) (fun c2 => ?_) (fun c2 => ?_)
      · have d2 := Int32.not_lt.mpr c2
        refine lv_iload_n hx hb dX1_weirsInWay_42 rfl (lv_at hl 1 rfl) ?_
        exact zR_i hx hb hr hlocks dX1_weirsInWay_43 rfl
      · exact absurd (nI_le (a := c) (b := c) (by omega) (by omega)) c2
    · intro k hkk ihk ls hl
      refine lv_iload_n hx hb dX1_weirsInWay_4 rfl (lv_at hl 0 rfl) ?_
      refine lv_aload_n hx hb dX1_weirsInWay_5 rfl (lv_at hl 2 rfl) ?_
      refine va_get (D := D) (ci := 1) (v := .int (nI c)) (C := RX1) (T := TX1) (N := 10) hx hb hts hinX1 hown hK hP (0) rfl rfl 4 (by decide) hf39 (fun _ h9 => h9) rfl dX1_weirsInWay_6 ?_
      refine lv_icmp_ge (tgt := 42) hx hb dX1_weirsInWay_9 (by decide) (fun c3 => ?_) (fun c3 => ?_)
      · exact absurd c3 (nI_ge (a := k) (b := c) (by omega) (by omega))
      · have d3 := Int32.not_le.mp c3
        refine lv_aload_n hx hb dX1_weirsInWay_12 rfl (lv_at hl 2 rfl) ?_
        refine lv_iload_n hx hb dX1_weirsInWay_13 rfl (lv_at hl 0 rfl) ?_
        refine zcRV (As := [.int (nI k)]) (rest := []) (st1 := [.ref (E (5 + k))]) ⟨hx, hb, hml, hown, hts⟩ (c_X1_weirAt l D y E t o q b c bc n ar fi re k (by omega) (by omega)) (cwV 1 hts gX1_weirsInWay_X1_weirAt rfl rfl rfl (by decide +kernel) ⟨Nat.le_of_ble_eq_true rfl, Nat.le_of_ble_eq_true rfl⟩) hK hP (ci := 1) (q0 := 0) rfl rfl rfl rfl hl.1 rfl (lv_room (Nat.le_of_ble_eq_true rfl)) dX1_weirsInWay_14 ⟨Nat.le_of_ble_eq_true rfl, Nat.le_of_ble_eq_true rfl⟩ rfl ?_
        refine lv_astore (lv' := [(4, .ref (E (5 + k))), (3, .int (nI k)), (2, .int (wayN q k x)), (0, .ref (E 0)), (1, .int x)]) hx hb dX1_weirsInWay_17 hl (by decide) rfl (fun ls hl => ?_)
        refine lv_aload hx hb dX1_weirsInWay_19 (lv_at hl 0 rfl) ?_
        refine lv_ifnull hx hb dX1_weirsInWay_21 ?_
        refine lv_aload hx hb dX1_weirsInWay_24 (lv_at hl 0 rfl) ?_
        refine lv_iload_n hx hb dX1_weirsInWay_26 rfl (lv_at hl 4 rfl) ?_
        refine zcRV (As := [.int x]) (rest := []) (st1 := [.int (zb (wayB q k x))]) ⟨hx, hb, hml, hown, hts⟩ (c_X2_isInWay l D y (E (5 + k)) q k x) (cwV 1 hts gX1_weirsInWay_X2_isInWay rfl rfl rfl (by decide +kernel) ⟨Nat.le_of_ble_eq_true rfl, Nat.le_of_ble_eq_true rfl⟩) hK (z_sub_P hP (z_in_1 (k := 5 + k) (eW_w (by omega)))) (ci := 2) (q0 := 0) rfl rfl rfl rfl hl.1 rfl (lv_room (Nat.le_of_ble_eq_true rfl)) dX1_weirsInWay_27 ⟨Nat.le_of_ble_eq_true rfl, Nat.le_of_ble_eq_true rfl⟩ rfl ?_
        refine lv_if_eq (tgt := 36) hx hb dX1_weirsInWay_30 (by decide) (fun c4 => ?_) (fun c4 => ?_)
        · have c4 : wayB q k x = false := zb_f c4
          refine lv_iinc (v := nI (k + 1)) (lv' := [(3, .int (nI (k + 1))), (4, .ref (E (5 + k))), (2, .int (wayN q k x)), (0, .ref (E 0)), (1, .int x)]) hx hb dX1_weirsInWay_36 hl (k := 1) rfl (nI_1 _) (by decide) rfl (fun ls hl => ?_)
          refine lv_goto (tgt := 4) hx hb dX1_weirsInWay_39 (by decide) ?_
          have e5 : wayN q (k + 1) x = wayN q k x := by simp [wayN_s, c4]
          refine ihk ls ?_
          simp only [e5]
          exact lv_sub hl [0, 2, 3, 4] rfl
        · have c4 : wayB q k x = true := zb_t c4
          refine lv_iinc (v := (wayN q k x + 1)) (lv' := [(2, .int ((wayN q k x + 1))), (4, .ref (E (5 + k))), (3, .int (nI k)), (0, .ref (E 0)), (1, .int x)]) hx hb dX1_weirsInWay_33 hl (k := 2) rfl rfl (by decide) rfl (fun ls hl => ?_)
          refine lv_iinc (v := nI (k + 1)) (lv' := [(3, .int (nI (k + 1))), (2, .int ((wayN q k x + 1))), (4, .ref (E (5 + k))), (0, .ref (E 0)), (1, .int x)]) hx hb dX1_weirsInWay_36 hl (k := 2) rfl (nI_1 _) (by decide) rfl (fun ls hl => ?_)
          refine lv_goto (tgt := 4) hx hb dX1_weirsInWay_39 (by decide) ?_
          have e6 : wayN q (k + 1) x = (wayN q k x + 1) := by simp [wayN_s, c4]
          refine ihk ls ?_
          simp only [e6]
          exact lv_sub hl [0, 1, 3, 4] rfl
  exact loop1 0 (Nat.zero_le _) ls (lv_sub hl [0, 1, 2, 3] rfl)
set_option maxHeartbeats 4000000 in
set_option maxRecDepth 100000 in
theorem c_X1_richestHeld (l : Launch) (D : va_G) (y : Nat → ClassId) (E : Nat → Nat) (t : Nat → Int32) (o : Nat → Nat) (q b : Fld) (c bc n : Nat) (ar fi re : Int32) (hc : c ≤ 6) : zR l yX1_richestHeld wsX1_richestHeld { frames := 1, cells := 0, slots := 0, locals := 22 } D y [.ref (E 0)] (eW E y t o q b c bc n ar fi re) (some (.int (richE q c).1)) := by
  refine zR.of (cc := cX1_richestHeld) (maxL := 5) (ret := (some .int)) (own := RX1) (by decide) rfl (Nat.le_of_ble_eq_true rfl) rfl ?_
  intro p e s m args below meth cd ls hx hb hr hml hown hts hlocks hP hK hl
  have hl : lv_has ls 5 [(0, .ref (E 0))] := hl
  have hf39 : (Cond.fieldLink RX1 39 "StakeWeirs$Estuary" "weirCount" "I").before args s = true := hts _ (by decide +kernel)
  have hinX1 : ∀ w ∈ wsX10, w ∈ wsX1_richestHeld := by decide +kernel
  have hf145 : (Cond.fieldLink RX1 145 "StakeWeirs$Weir" "coins" "I").before args s = true := hts _ (by decide +kernel)
  have hinX2 : ∀ w ∈ wsX20, w ∈ wsX1_richestHeld := by decide +kernel
  refine lv_iconst (v := (-1)) hx hb dX1_richestHeld_0 (by decide) ?_
  refine lv_istore_n (lv' := [(1, .int (-1)), (0, .ref (E 0))]) hx hb dX1_richestHeld_1 rfl hl (by decide) rfl (fun ls hl => ?_)
  refine lv_iconst (v := 0) hx hb dX1_richestHeld_2 (by decide) ?_
  refine lv_istore_n (lv' := [(2, .int 0), (1, .int (-1)), (0, .ref (E 0))]) hx hb dX1_richestHeld_3 rfl hl (by decide) rfl (fun ls hl => ?_)
  refine lv_iconst (v := 0) hx hb dX1_richestHeld_4 (by decide) ?_
  refine lv_istore_n (lv' := [(3, .int 0), (2, .int 0), (1, .int (-1)), (0, .ref (E 0))]) hx hb dX1_richestHeld_5 rfl hl (by decide) rfl (fun ls hl => ?_)
  have loop1 : ∀ k, k ≤ c → ∀ (ls : Array Slot), lv_has ls 5 [(3, .int (nI k)), (2, .int ((richE q k).2)), (1, .int ((richE q k).1)), (0, .ref (E 0))] → W p l e ({ frames := 1, cells := 0, slots := 0, locals := 22 } : Room) s m args below meth cd s.heap [] 0 0 (MQ below (zRQ (some (.int (richE q c).1))) args s 0 0 (fun _ => False)) (F0 m 6 ls []) := by
    refine down ?_ ?_
    · intro ls hl
      refine lv_iload_n hx hb dX1_richestHeld_6 rfl (lv_at hl 0 rfl) ?_
      refine lv_aload_n hx hb dX1_richestHeld_7 rfl (lv_at hl 3 rfl) ?_
      refine va_get (D := D) (ci := 1) (v := .int (nI c)) (C := RX1) (T := TX1) (N := 10) hx hb hts hinX1 hown hK hP (0) rfl rfl 4 (by decide) hf39 (fun _ h9 => h9) rfl dX1_richestHeld_8 ?_
      refine lv_icmp_ge (tgt := 62) hx hb dX1_richestHeld_11 (by decide) (fun c2 => ?_) (fun c2 => ?_)
      · have d2 := Int32.not_lt.mpr c2
        refine lv_iload_n hx hb dX1_richestHeld_62 rfl (lv_at hl 2 rfl) ?_
        exact zR_i hx hb hr hlocks dX1_richestHeld_63 rfl
      · exact absurd (nI_le (a := c) (b := c) (by omega) (by omega)) c2
    · intro k hkk ihk ls hl
      refine lv_iload_n hx hb dX1_richestHeld_6 rfl (lv_at hl 0 rfl) ?_
      refine lv_aload_n hx hb dX1_richestHeld_7 rfl (lv_at hl 3 rfl) ?_
      refine va_get (D := D) (ci := 1) (v := .int (nI c)) (C := RX1) (T := TX1) (N := 10) hx hb hts hinX1 hown hK hP (0) rfl rfl 4 (by decide) hf39 (fun _ h9 => h9) rfl dX1_richestHeld_8 ?_
      refine lv_icmp_ge (tgt := 62) hx hb dX1_richestHeld_11 (by decide) (fun c3 => ?_) (fun c3 => ?_)
      · exact absurd c3 (nI_ge (a := k) (b := c) (by omega) (by omega))
      · have d3 := Int32.not_le.mp c3
        refine lv_aload_n hx hb dX1_richestHeld_14 rfl (lv_at hl 3 rfl) ?_
        refine lv_iload_n hx hb dX1_richestHeld_15 rfl (lv_at hl 0 rfl) ?_
        refine zcRV (As := [.int (nI k)]) (rest := []) (st1 := [.ref (E (5 + k))]) ⟨hx, hb, hml, hown, hts⟩ (c_X1_weirAt l D y E t o q b c bc n ar fi re k (by omega) (by omega)) (cwV 1 hts gX1_richestHeld_X1_weirAt rfl rfl rfl (by decide +kernel) ⟨Nat.le_of_ble_eq_true rfl, Nat.le_of_ble_eq_true rfl⟩) hK hP (ci := 1) (q0 := 0) rfl rfl rfl rfl hl.1 rfl (lv_room (Nat.le_of_ble_eq_true rfl)) dX1_richestHeld_16 ⟨Nat.le_of_ble_eq_true rfl, Nat.le_of_ble_eq_true rfl⟩ rfl ?_
        refine lv_astore (lv' := [(4, .ref (E (5 + k))), (3, .int (nI k)), (2, .int ((richE q k).2)), (1, .int ((richE q k).1)), (0, .ref (E 0))]) hx hb dX1_richestHeld_19 hl (by decide) rfl (fun ls hl => ?_)
        refine lv_aload hx hb dX1_richestHeld_21 (lv_at hl 0 rfl) ?_
        refine lv_ifnull hx hb dX1_richestHeld_23 ?_
        refine lv_aload hx hb dX1_richestHeld_26 (lv_at hl 0 rfl) ?_
        refine zcRV (As := []) (rest := []) (st1 := [.int (zb (heldB q k))]) ⟨hx, hb, hml, hown, hts⟩ (c_X2_isHeld l D y (E (5 + k)) q k) (cwV 0 hts gX1_richestHeld_X2_isHeld rfl rfl rfl (by decide +kernel) ⟨Nat.le_of_ble_eq_true rfl, Nat.le_of_ble_eq_true rfl⟩) hK (z_sub_P hP (z_in_1 (k := 5 + k) (eW_w (by omega)))) (ci := 2) (q0 := 0) rfl rfl rfl rfl hl.1 rfl (lv_room (Nat.le_of_ble_eq_true rfl)) dX1_richestHeld_28 ⟨Nat.le_of_ble_eq_true rfl, Nat.le_of_ble_eq_true rfl⟩ rfl ?_
        refine lv_if_eq (tgt := 56) hx hb dX1_richestHeld_31 (by decide) (fun c4 => ?_) (fun c4 => ?_)
        · have c4 : heldB q k = false := zb_f c4
          refine lv_iinc (v := nI (k + 1)) (lv' := [(3, .int (nI (k + 1))), (4, .ref (E (5 + k))), (2, .int ((richE q k).2)), (1, .int ((richE q k).1)), (0, .ref (E 0))]) hx hb dX1_richestHeld_56 hl (k := 1) rfl (nI_1 _) (by decide) rfl (fun ls hl => ?_)
          refine lv_goto (tgt := 6) hx hb dX1_richestHeld_59 (by decide) ?_
          have e5 : (richE q (k + 1)).2 = (richE q k).2 := by simp [richE_s, richS, c4]
          have e6 : (richE q (k + 1)).1 = (richE q k).1 := by simp [richE_s, richS, c4]
          refine ihk ls ?_
          simp only [e5, e6]
          exact lv_sub hl [0, 2, 3, 4] rfl
        · have c4 : heldB q k = true := zb_t c4
          refine lv_iload_n hx hb dX1_richestHeld_34 rfl (lv_at hl 3 rfl) ?_
          refine lv_iconst (v := (-1)) hx hb dX1_richestHeld_35 (by decide) ?_
          refine lv_icmp_eq (tgt := 48) hx hb dX1_richestHeld_36 (by decide) (fun c7 => ?_) (fun c7 => ?_)
          · have d7 := c7
            refine lv_iload_n hx hb dX1_richestHeld_48 rfl (lv_at hl 1 rfl) ?_
            refine lv_istore_n (lv' := [(1, .int (nI k)), (4, .ref (E (5 + k))), (3, .int (nI k)), (2, .int ((richE q k).2)), (0, .ref (E 0))]) hx hb dX1_richestHeld_49 rfl hl (by decide) rfl (fun ls hl => ?_)
            refine lv_aload hx hb dX1_richestHeld_50 (lv_at hl 1 rfl) ?_
            refine va_get (D := D) (ci := 2) (v := .int ((q 4 k))) (C := RX2) (T := TX2) (N := 8) hx hb hts hinX2 hown hK hP (5 + k) (eW_w (by omega)) rfl 4 (by decide) hf145 (fun _ h9 => h9) rfl dX1_richestHeld_52 ?_
            refine lv_istore_n (lv' := [(2, .int ((q 4 k))), (1, .int (nI k)), (4, .ref (E (5 + k))), (3, .int (nI k)), (0, .ref (E 0))]) hx hb dX1_richestHeld_55 rfl hl (by decide) rfl (fun ls hl => ?_)
            refine lv_iinc (v := nI (k + 1)) (lv' := [(3, .int (nI (k + 1))), (2, .int ((q 4 k))), (1, .int (nI k)), (4, .ref (E (5 + k))), (0, .ref (E 0))]) hx hb dX1_richestHeld_56 hl (k := 3) rfl (nI_1 _) (by decide) rfl (fun ls hl => ?_)
            refine lv_goto (tgt := 6) hx hb dX1_richestHeld_59 (by decide) ?_
            have e8 : (richE q (k + 1)).2 = (q 4 k) := by simp [richE_s, richS, c4, c7, d7]
            have e9 : (richE q (k + 1)).1 = nI k := by simp [richE_s, richS, c4, c7, d7]
            refine ihk ls ?_
            simp only [e8, e9]
            exact lv_sub hl [0, 1, 2, 4] rfl
          · have d7 := c7
            refine lv_aload hx hb dX1_richestHeld_39 (lv_at hl 0 rfl) ?_
            refine va_get (D := D) (ci := 2) (v := .int ((q 4 k))) (C := RX2) (T := TX2) (N := 8) hx hb hts hinX2 hown hK hP (5 + k) (eW_w (by omega)) rfl 4 (by decide) hf145 (fun _ h9 => h9) rfl dX1_richestHeld_41 ?_
            refine lv_iload_n hx hb dX1_richestHeld_44 rfl (lv_at hl 2 rfl) ?_
            refine lv_icmp_le (tgt := 56) hx hb dX1_richestHeld_45 (by decide) (fun c10 => ?_) (fun c10 => ?_)
            · have d10 := Int32.not_lt.mpr c10
              refine lv_iinc (v := nI (k + 1)) (lv' := [(3, .int (nI (k + 1))), (4, .ref (E (5 + k))), (2, .int ((richE q k).2)), (1, .int ((richE q k).1)), (0, .ref (E 0))]) hx hb dX1_richestHeld_56 hl (k := 1) rfl (nI_1 _) (by decide) rfl (fun ls hl => ?_)
              refine lv_goto (tgt := 6) hx hb dX1_richestHeld_59 (by decide) ?_
              have e11 : (richE q (k + 1)).2 = (richE q k).2 := by simp [richE_s, richS, c4, c7, d7, c10, d10]
              have e12 : (richE q (k + 1)).1 = (richE q k).1 := by simp [richE_s, richS, c4, c7, d7, c10, d10]
              refine ihk ls ?_
              simp only [e11, e12]
              exact lv_sub hl [0, 2, 3, 4] rfl
            · have d10 := Int32.not_le.mp c10
              refine lv_iload_n hx hb dX1_richestHeld_48 rfl (lv_at hl 1 rfl) ?_
              refine lv_istore_n (lv' := [(1, .int (nI k)), (4, .ref (E (5 + k))), (3, .int (nI k)), (2, .int ((richE q k).2)), (0, .ref (E 0))]) hx hb dX1_richestHeld_49 rfl hl (by decide) rfl (fun ls hl => ?_)
              refine lv_aload hx hb dX1_richestHeld_50 (lv_at hl 1 rfl) ?_
              refine va_get (D := D) (ci := 2) (v := .int ((q 4 k))) (C := RX2) (T := TX2) (N := 8) hx hb hts hinX2 hown hK hP (5 + k) (eW_w (by omega)) rfl 4 (by decide) hf145 (fun _ h9 => h9) rfl dX1_richestHeld_52 ?_
              refine lv_istore_n (lv' := [(2, .int ((q 4 k))), (1, .int (nI k)), (4, .ref (E (5 + k))), (3, .int (nI k)), (0, .ref (E 0))]) hx hb dX1_richestHeld_55 rfl hl (by decide) rfl (fun ls hl => ?_)
              refine lv_iinc (v := nI (k + 1)) (lv' := [(3, .int (nI (k + 1))), (2, .int ((q 4 k))), (1, .int (nI k)), (4, .ref (E (5 + k))), (0, .ref (E 0))]) hx hb dX1_richestHeld_56 hl (k := 3) rfl (nI_1 _) (by decide) rfl (fun ls hl => ?_)
              refine lv_goto (tgt := 6) hx hb dX1_richestHeld_59 (by decide) ?_
              have e13 : (richE q (k + 1)).2 = (q 4 k) := by simp [richE_s, richS, c4, c7, d7, c10, d10]
              have e14 : (richE q (k + 1)).1 = nI k := by simp [richE_s, richS, c4, c7, d7, c10, d10]
              refine ihk ls ?_
              simp only [e13, e14]
              exact lv_sub hl [0, 1, 2, 4] rfl
  exact loop1 0 (Nat.zero_le _) ls (lv_sub hl [0, 1, 2, 3] rfl)
set_option maxHeartbeats 4000000 in
set_option maxRecDepth 100000 in
theorem c_X1_nextInWay (l : Launch) (D : va_G) (y : Nat → ClassId) (E : Nat → Nat) (t : Nat → Int32) (o : Nat → Nat) (q b : Fld) (c bc n : Nat) (ar fi re : Int32) (j : Nat) (hj : j < 5) (hc : c ≤ 6) : zR l yX1_nextInWay wsX1_nextInWay { frames := 2, cells := 0, slots := 0, locals := 41 } D y [.ref (E 0), .ref (E (11 + j))] (eW E y t o q b c bc n ar fi re) (some (.int (nextE q c (b 2 j) (b 1 j)).1)) := by
  refine zR.of (cc := cX1_nextInWay) (maxL := 6) (ret := (some .int)) (own := RX1) (by decide) rfl (Nat.le_of_ble_eq_true rfl) rfl ?_
  intro p e s m args below meth cd ls hx hb hr hml hown hts hlocks hP hK hl
  have hl : lv_has ls 6 [(0, .ref (E 0)), (1, .ref (E (11 + j)))] := hl
  have hf39 : (Cond.fieldLink RX1 39 "StakeWeirs$Estuary" "weirCount" "I").before args s = true := hts _ (by decide +kernel)
  have hinX1 : ∀ w ∈ wsX10, w ∈ wsX1_nextInWay := by decide +kernel
  have hf93 : (Cond.fieldLink RX1 93 "StakeWeirs$Weir" "place" "I").before args s = true := hts _ (by decide +kernel)
  have hinX2 : ∀ w ∈ wsX20, w ∈ wsX1_nextInWay := by decide +kernel
  have hf123 : (Cond.fieldLink RX1 123 "StakeWeirs$Barge" "place" "I").before args s = true := hts _ (by decide +kernel)
  have hinX0 : ∀ w ∈ wsX00, w ∈ wsX1_nextInWay := by decide +kernel
  have hf120 : (Cond.fieldLink RX1 120 "StakeWeirs$Barge" "wide" "I").before args s = true := hts _ (by decide +kernel)
  refine lv_iconst (v := (-1)) hx hb dX1_nextInWay_0 (by decide) ?_
  refine lv_istore_n (lv' := [(2, .int (-1)), (0, .ref (E 0)), (1, .ref (E (11 + j)))]) hx hb dX1_nextInWay_1 rfl hl (by decide) rfl (fun ls hl => ?_)
  refine lv_bipush (v := 40) hx hb dX1_nextInWay_2 (by decide) ?_
  refine lv_istore_n (lv' := [(3, .int 40), (2, .int (-1)), (0, .ref (E 0)), (1, .ref (E (11 + j)))]) hx hb dX1_nextInWay_4 rfl hl (by decide) rfl (fun ls hl => ?_)
  refine lv_iconst (v := 0) hx hb dX1_nextInWay_5 (by decide) ?_
  refine lv_istore (lv' := [(4, .int 0), (3, .int 40), (2, .int (-1)), (0, .ref (E 0)), (1, .ref (E (11 + j)))]) hx hb dX1_nextInWay_6 hl (by decide) rfl (fun ls hl => ?_)
  have loop1 : ∀ k, k ≤ c → ∀ (ls : Array Slot), lv_has ls 6 [(4, .int (nI k)), (3, .int ((nextE q k (b 2 j) (b 1 j)).2)), (2, .int ((nextE q k (b 2 j) (b 1 j)).1)), (0, .ref (E 0)), (1, .ref (E (11 + j)))] → W p l e ({ frames := 2, cells := 0, slots := 0, locals := 41 } : Room) s m args below meth cd s.heap [] 0 0 (MQ below (zRQ (some (.int (nextE q c (b 2 j) (b 1 j)).1))) args s 0 0 (fun _ => False)) (F0 m 8 ls []) := by
    refine down ?_ ?_
    · intro ls hl
      refine lv_iload hx hb dX1_nextInWay_8 (lv_at hl 0 rfl) ?_
      refine lv_aload_n hx hb dX1_nextInWay_10 rfl (lv_at hl 3 rfl) ?_
      refine va_get (D := D) (ci := 1) (v := .int (nI c)) (C := RX1) (T := TX1) (N := 10) hx hb hts hinX1 hown hK hP (0) rfl rfl 4 (by decide) hf39 (fun _ h9 => h9) rfl dX1_nextInWay_11 ?_
      refine lv_icmp_ge (tgt := 78) hx hb dX1_nextInWay_14 (by decide) (fun c2 => ?_) (fun c2 => ?_)
      · have d2 := Int32.not_lt.mpr c2
        refine lv_iload_n hx hb dX1_nextInWay_78 rfl (lv_at hl 2 rfl) ?_
        exact zR_i hx hb hr hlocks dX1_nextInWay_79 rfl
      · exact absurd (nI_le (a := c) (b := c) (by omega) (by omega)) c2
    · intro k hkk ihk ls hl
      refine lv_iload hx hb dX1_nextInWay_8 (lv_at hl 0 rfl) ?_
      refine lv_aload_n hx hb dX1_nextInWay_10 rfl (lv_at hl 3 rfl) ?_
      refine va_get (D := D) (ci := 1) (v := .int (nI c)) (C := RX1) (T := TX1) (N := 10) hx hb hts hinX1 hown hK hP (0) rfl rfl 4 (by decide) hf39 (fun _ h9 => h9) rfl dX1_nextInWay_11 ?_
      refine lv_icmp_ge (tgt := 78) hx hb dX1_nextInWay_14 (by decide) (fun c3 => ?_) (fun c3 => ?_)
      · exact absurd c3 (nI_ge (a := k) (b := c) (by omega) (by omega))
      · have d3 := Int32.not_le.mp c3
        refine lv_aload_n hx hb dX1_nextInWay_17 rfl (lv_at hl 3 rfl) ?_
        refine lv_iload hx hb dX1_nextInWay_18 (lv_at hl 0 rfl) ?_
        refine zcRV (As := [.int (nI k)]) (rest := []) (st1 := [.ref (E (5 + k))]) ⟨hx, hb, hml, hown, hts⟩ (c_X1_weirAt l D y E t o q b c bc n ar fi re k (by omega) (by omega)) (cwV 1 hts gX1_nextInWay_X1_weirAt rfl rfl rfl (by decide +kernel) ⟨Nat.le_of_ble_eq_true rfl, Nat.le_of_ble_eq_true rfl⟩) hK hP (ci := 1) (q0 := 0) rfl rfl rfl rfl hl.1 rfl (lv_room (Nat.le_of_ble_eq_true rfl)) dX1_nextInWay_20 ⟨Nat.le_of_ble_eq_true rfl, Nat.le_of_ble_eq_true rfl⟩ rfl ?_
        refine lv_astore (lv' := [(5, .ref (E (5 + k))), (4, .int (nI k)), (3, .int ((nextE q k (b 2 j) (b 1 j)).2)), (2, .int ((nextE q k (b 2 j) (b 1 j)).1)), (0, .ref (E 0)), (1, .ref (E (11 + j)))]) hx hb dX1_nextInWay_23 hl (by decide) rfl (fun ls hl => ?_)
        refine lv_aload hx hb dX1_nextInWay_25 (lv_at hl 0 rfl) ?_
        refine lv_ifnull hx hb dX1_nextInWay_27 ?_
        refine lv_aload hx hb dX1_nextInWay_30 (lv_at hl 0 rfl) ?_
        refine va_get (D := D) (ci := 2) (v := .int ((q 0 k))) (C := RX2) (T := TX2) (N := 8) hx hb hts hinX2 hown hK hP (5 + k) (eW_w (by omega)) rfl 0 (by decide) hf93 (fun _ h9 => h9) rfl dX1_nextInWay_32 ?_
        refine lv_aload_n hx hb dX1_nextInWay_35 rfl (lv_at hl 5 rfl) ?_
        refine va_get (D := D) (ci := 0) (v := .int ((b 2 j))) (C := RX0) (T := TX0) (N := 4) hx hb hts hinX0 hown hK hP (11 + j) (eW_b (by omega)) rfl 2 (by decide) hf123 (fun _ h9 => h9) rfl dX1_nextInWay_36 ?_
        refine lv_icmp_le (tgt := 72) hx hb dX1_nextInWay_39 (by decide) (fun c4 => ?_) (fun c4 => ?_)
        · have d4 := Int32.not_lt.mpr c4
          refine lv_iinc (v := nI (k + 1)) (lv' := [(4, .int (nI (k + 1))), (5, .ref (E (5 + k))), (3, .int ((nextE q k (b 2 j) (b 1 j)).2)), (2, .int ((nextE q k (b 2 j) (b 1 j)).1)), (0, .ref (E 0)), (1, .ref (E (11 + j)))]) hx hb dX1_nextInWay_72 hl (k := 1) rfl (nI_1 _) (by decide) rfl (fun ls hl => ?_)
          refine lv_goto (tgt := 8) hx hb dX1_nextInWay_75 (by decide) ?_
          have e5 : (nextE q (k + 1) (b 2 j) (b 1 j)).2 = (nextE q k (b 2 j) (b 1 j)).2 := by simp [nextE_s, nextS, c4, d4]
          have e6 : (nextE q (k + 1) (b 2 j) (b 1 j)).1 = (nextE q k (b 2 j) (b 1 j)).1 := by simp [nextE_s, nextS, c4, d4]
          refine ihk ls ?_
          simp only [e5, e6]
          exact lv_sub hl [0, 2, 3, 4, 5] rfl
        · have d4 := Int32.not_le.mp c4
          refine lv_aload hx hb dX1_nextInWay_42 (lv_at hl 0 rfl) ?_
          refine va_get (D := D) (ci := 2) (v := .int ((q 0 k))) (C := RX2) (T := TX2) (N := 8) hx hb hts hinX2 hown hK hP (5 + k) (eW_w (by omega)) rfl 0 (by decide) hf93 (fun _ h9 => h9) rfl dX1_nextInWay_44 ?_
          refine lv_iload_n hx hb dX1_nextInWay_47 rfl (lv_at hl 2 rfl) ?_
          refine lv_icmp_ge (tgt := 72) hx hb dX1_nextInWay_48 (by decide) (fun c7 => ?_) (fun c7 => ?_)
          · have d7 := Int32.not_lt.mpr c7
            refine lv_iinc (v := nI (k + 1)) (lv' := [(4, .int (nI (k + 1))), (5, .ref (E (5 + k))), (3, .int ((nextE q k (b 2 j) (b 1 j)).2)), (2, .int ((nextE q k (b 2 j) (b 1 j)).1)), (0, .ref (E 0)), (1, .ref (E (11 + j)))]) hx hb dX1_nextInWay_72 hl (k := 1) rfl (nI_1 _) (by decide) rfl (fun ls hl => ?_)
            refine lv_goto (tgt := 8) hx hb dX1_nextInWay_75 (by decide) ?_
            have e8 : (nextE q (k + 1) (b 2 j) (b 1 j)).2 = (nextE q k (b 2 j) (b 1 j)).2 := by simp [nextE_s, nextS, c4, d4, c7, d7]
            have e9 : (nextE q (k + 1) (b 2 j) (b 1 j)).1 = (nextE q k (b 2 j) (b 1 j)).1 := by simp [nextE_s, nextS, c4, d4, c7, d7]
            refine ihk ls ?_
            simp only [e8, e9]
            exact lv_sub hl [0, 2, 3, 4, 5] rfl
          · have d7 := Int32.not_le.mp c7
            refine lv_aload hx hb dX1_nextInWay_51 (lv_at hl 0 rfl) ?_
            refine lv_aload_n hx hb dX1_nextInWay_53 rfl (lv_at hl 5 rfl) ?_
            refine va_get (D := D) (ci := 0) (v := .int ((b 1 j))) (C := RX0) (T := TX0) (N := 4) hx hb hts hinX0 hown hK hP (11 + j) (eW_b (by omega)) rfl 1 (by decide) hf120 (fun _ h9 => h9) rfl dX1_nextInWay_54 ?_
            refine zcRV (As := [.int ((b 1 j))]) (rest := []) (st1 := [.int (zb (wayB q k (b 1 j)))]) ⟨hx, hb, hml, hown, hts⟩ (c_X2_isInWay l D y (E (5 + k)) q k (b 1 j)) (cwV 1 hts gX1_nextInWay_X2_isInWay rfl rfl rfl (by decide +kernel) ⟨Nat.le_of_ble_eq_true rfl, Nat.le_of_ble_eq_true rfl⟩) hK (z_sub_P hP (z_in_1 (k := 5 + k) (eW_w (by omega)))) (ci := 2) (q0 := 0) rfl rfl rfl rfl hl.1 rfl (lv_room (Nat.le_of_ble_eq_true rfl)) dX1_nextInWay_57 ⟨Nat.le_of_ble_eq_true rfl, Nat.le_of_ble_eq_true rfl⟩ rfl ?_
            refine lv_if_eq (tgt := 72) hx hb dX1_nextInWay_60 (by decide) (fun c10 => ?_) (fun c10 => ?_)
            · have c10 : wayB q k (b 1 j) = false := zb_f c10
              refine lv_iinc (v := nI (k + 1)) (lv' := [(4, .int (nI (k + 1))), (5, .ref (E (5 + k))), (3, .int ((nextE q k (b 2 j) (b 1 j)).2)), (2, .int ((nextE q k (b 2 j) (b 1 j)).1)), (0, .ref (E 0)), (1, .ref (E (11 + j)))]) hx hb dX1_nextInWay_72 hl (k := 1) rfl (nI_1 _) (by decide) rfl (fun ls hl => ?_)
              refine lv_goto (tgt := 8) hx hb dX1_nextInWay_75 (by decide) ?_
              have e11 : (nextE q (k + 1) (b 2 j) (b 1 j)).2 = (nextE q k (b 2 j) (b 1 j)).2 := by simp [nextE_s, nextS, c4, d4, c7, d7, c10]
              have e12 : (nextE q (k + 1) (b 2 j) (b 1 j)).1 = (nextE q k (b 2 j) (b 1 j)).1 := by simp [nextE_s, nextS, c4, d4, c7, d7, c10]
              refine ihk ls ?_
              simp only [e11, e12]
              exact lv_sub hl [0, 2, 3, 4, 5] rfl
            · have c10 : wayB q k (b 1 j) = true := zb_t c10
              refine lv_iload hx hb dX1_nextInWay_63 (lv_at hl 1 rfl) ?_
              refine lv_istore_n (lv' := [(2, .int (nI k)), (5, .ref (E (5 + k))), (4, .int (nI k)), (3, .int ((nextE q k (b 2 j) (b 1 j)).2)), (0, .ref (E 0)), (1, .ref (E (11 + j)))]) hx hb dX1_nextInWay_65 rfl hl (by decide) rfl (fun ls hl => ?_)
              refine lv_aload hx hb dX1_nextInWay_66 (lv_at hl 1 rfl) ?_
              refine va_get (D := D) (ci := 2) (v := .int ((q 0 k))) (C := RX2) (T := TX2) (N := 8) hx hb hts hinX2 hown hK hP (5 + k) (eW_w (by omega)) rfl 0 (by decide) hf93 (fun _ h9 => h9) rfl dX1_nextInWay_68 ?_
              refine lv_istore_n (lv' := [(3, .int ((q 0 k))), (2, .int (nI k)), (5, .ref (E (5 + k))), (4, .int (nI k)), (0, .ref (E 0)), (1, .ref (E (11 + j)))]) hx hb dX1_nextInWay_71 rfl hl (by decide) rfl (fun ls hl => ?_)
              refine lv_iinc (v := nI (k + 1)) (lv' := [(4, .int (nI (k + 1))), (3, .int ((q 0 k))), (2, .int (nI k)), (5, .ref (E (5 + k))), (0, .ref (E 0)), (1, .ref (E (11 + j)))]) hx hb dX1_nextInWay_72 hl (k := 3) rfl (nI_1 _) (by decide) rfl (fun ls hl => ?_)
              refine lv_goto (tgt := 8) hx hb dX1_nextInWay_75 (by decide) ?_
              have e13 : (nextE q (k + 1) (b 2 j) (b 1 j)).2 = (q 0 k) := by simp [nextE_s, nextS, c4, d4, c7, d7, c10]
              have e14 : (nextE q (k + 1) (b 2 j) (b 1 j)).1 = nI k := by simp [nextE_s, nextS, c4, d4, c7, d7, c10]
              refine ihk ls ?_
              simp only [e13, e14]
              exact lv_sub hl [0, 1, 2, 4, 5] rfl
  exact loop1 0 (Nat.zero_le _) ls (lv_sub hl [0, 1, 2, 3, 4] rfl)
set_option maxHeartbeats 4000000 in
set_option maxRecDepth 100000 in
theorem c_X1_fact_0 (l : Launch) (D : va_G) (y : Nat → ClassId) (E : Nat → Nat) (t : Nat → Int32) (o : Nat → Nat) (q b : Fld) (c bc n : Nat) (ar fi re : Int32) (hc : c ≤ 6) (hn : n < 2147483648) : zR l yX1_fact wsX1_fact { frames := 0, cells := 0, slots := 0, locals := 0 } D y [.ref (E 0), .int 0] (eW E y t o q b c bc n ar fi re) (some (.int (nI n))) := by
  refine zR.of (cc := cX1_fact) (maxL := 2) (ret := (some .int)) (own := RX1) (by decide) rfl (Nat.le_of_ble_eq_true rfl) rfl ?_
  intro p e s m args below meth cd ls hx hb hr hml hown hts hlocks hP hK hl
  have hl : lv_has ls 2 [(0, .ref (E 0)), (1, .int 0)] := hl
  have hf62 : (Cond.fieldLink RX1 62 "StakeWeirs$Estuary" "night" "I").before args s = true := hts _ (by decide +kernel)
  have hinX1 : ∀ w ∈ wsX10, w ∈ wsX1_fact := by decide +kernel
  refine lv_iload_n hx hb dX1_fact_0 rfl (lv_at hl 1 rfl) ?_
  refine lv_tableIn (off := 51) (tgt := 52) hx hb dX1_fact_1 (by decide) (by decide) rfl (by decide) ?_
  refine lv_aload_n hx hb dX1_fact_52 rfl (lv_at hl 0 rfl) ?_
  refine va_get (D := D) (ci := 1) (v := .int (nI n)) (C := RX1) (T := TX1) (N := 10) hx hb hts hinX1 hown hK hP (0) rfl rfl 6 (by decide) hf62 (fun _ h9 => h9) rfl dX1_fact_53 ?_
  exact zR_i hx hb hr hlocks dX1_fact_56 rfl
set_option maxHeartbeats 4000000 in
set_option maxRecDepth 100000 in
theorem c_X1_fact_1 (l : Launch) (D : va_G) (y : Nat → ClassId) (E : Nat → Nat) (t : Nat → Int32) (o : Nat → Nat) (q b : Fld) (c bc n : Nat) (ar fi re : Int32) (hc : c ≤ 6) (hn : n < 2147483648) : zR l yX1_fact wsX1_fact { frames := 2, cells := 0, slots := 0, locals := 43 } D y [.ref (E 0), .int 1] (eW E y t o q b c bc n ar fi re) (some (.int ((moonI n)))) := by
  refine zR.of (cc := cX1_fact) (maxL := 2) (ret := (some .int)) (own := RX1) (by decide) rfl (Nat.le_of_ble_eq_true rfl) rfl ?_
  intro p e s m args below meth cd ls hx hb hr hml hown hts hlocks hP hK hl
  have hl : lv_has ls 2 [(0, .ref (E 0)), (1, .int 1)] := hl
  refine lv_iload_n hx hb dX1_fact_0 rfl (lv_at hl 1 rfl) ?_
  refine lv_tableIn (off := 56) (tgt := 57) hx hb dX1_fact_1 (by decide) (by decide) rfl (by decide) ?_
  refine lv_aload_n hx hb dX1_fact_57 rfl (lv_at hl 0 rfl) ?_
  refine zcRV (As := []) (rest := []) (st1 := [.int ((moonI n))]) ⟨hx, hb, hml, hown, hts⟩ (c_X1_moon l D y E t o q b c bc n ar fi re  (by omega)) (cwV 0 hts gX1_fact_X1_moon rfl rfl rfl (by decide +kernel) ⟨Nat.le_of_ble_eq_true rfl, Nat.le_of_ble_eq_true rfl⟩) hK hP (ci := 1) (q0 := 0) rfl rfl rfl rfl hl.1 rfl (lv_room (Nat.le_of_ble_eq_true rfl)) dX1_fact_58 ⟨Nat.le_of_ble_eq_true rfl, Nat.le_of_ble_eq_true rfl⟩ rfl ?_
  exact zR_i hx hb hr hlocks dX1_fact_61 rfl
set_option maxHeartbeats 4000000 in
set_option maxRecDepth 100000 in
theorem c_X1_fact_2 (l : Launch) (D : va_G) (y : Nat → ClassId) (E : Nat → Nat) (t : Nat → Int32) (o : Nat → Nat) (q b : Fld) (c bc n : Nat) (ar fi re : Int32) (hc : c ≤ 6) (hn : n < 2147483648) : zR l yX1_fact wsX1_fact { frames := 3, cells := 0, slots := 0, locals := 65 } D y [.ref (E 0), .int 2] (eW E y t o q b c bc n ar fi re) (some (.int ((runI t n)))) := by
  refine zR.of (cc := cX1_fact) (maxL := 2) (ret := (some .int)) (own := RX1) (by decide) rfl (Nat.le_of_ble_eq_true rfl) rfl ?_
  intro p e s m args below meth cd ls hx hb hr hml hown hts hlocks hP hK hl
  have hl : lv_has ls 2 [(0, .ref (E 0)), (1, .int 2)] := hl
  refine lv_iload_n hx hb dX1_fact_0 rfl (lv_at hl 1 rfl) ?_
  refine lv_tableIn (off := 61) (tgt := 62) hx hb dX1_fact_1 (by decide) (by decide) rfl (by decide) ?_
  refine lv_aload_n hx hb dX1_fact_62 rfl (lv_at hl 0 rfl) ?_
  refine zcRV (As := []) (rest := []) (st1 := [.int ((runI t n))]) ⟨hx, hb, hml, hown, hts⟩ (c_X1_run l D y E t o q b c bc n ar fi re  (by omega)) (cwV 0 hts gX1_fact_X1_run rfl rfl rfl (by decide +kernel) ⟨Nat.le_of_ble_eq_true rfl, Nat.le_of_ble_eq_true rfl⟩) hK hP (ci := 1) (q0 := 0) rfl rfl rfl rfl hl.1 rfl (lv_room (Nat.le_of_ble_eq_true rfl)) dX1_fact_63 ⟨Nat.le_of_ble_eq_true rfl, Nat.le_of_ble_eq_true rfl⟩ rfl ?_
  exact zR_i hx hb hr hlocks dX1_fact_66 rfl
set_option maxHeartbeats 4000000 in
set_option maxRecDepth 100000 in
theorem c_X1_fact_3 (l : Launch) (D : va_G) (y : Nat → ClassId) (E : Nat → Nat) (t : Nat → Int32) (o : Nat → Nat) (q b : Fld) (c bc n : Nat) (ar fi re : Int32) (hc : c ≤ 6) (hn : n < 2147483648) : zR l yX1_fact wsX1_fact { frames := 0, cells := 0, slots := 0, locals := 0 } D y [.ref (E 0), .int 3] (eW E y t o q b c bc n ar fi re) (some (.int (nI c))) := by
  refine zR.of (cc := cX1_fact) (maxL := 2) (ret := (some .int)) (own := RX1) (by decide) rfl (Nat.le_of_ble_eq_true rfl) rfl ?_
  intro p e s m args below meth cd ls hx hb hr hml hown hts hlocks hP hK hl
  have hl : lv_has ls 2 [(0, .ref (E 0)), (1, .int 3)] := hl
  have hf39 : (Cond.fieldLink RX1 39 "StakeWeirs$Estuary" "weirCount" "I").before args s = true := hts _ (by decide +kernel)
  have hinX1 : ∀ w ∈ wsX10, w ∈ wsX1_fact := by decide +kernel
  refine lv_iload_n hx hb dX1_fact_0 rfl (lv_at hl 1 rfl) ?_
  refine lv_tableIn (off := 66) (tgt := 67) hx hb dX1_fact_1 (by decide) (by decide) rfl (by decide) ?_
  refine lv_aload_n hx hb dX1_fact_67 rfl (lv_at hl 0 rfl) ?_
  refine va_get (D := D) (ci := 1) (v := .int (nI c)) (C := RX1) (T := TX1) (N := 10) hx hb hts hinX1 hown hK hP (0) rfl rfl 4 (by decide) hf39 (fun _ h9 => h9) rfl dX1_fact_68 ?_
  exact zR_i hx hb hr hlocks dX1_fact_71 rfl
set_option maxHeartbeats 4000000 in
set_option maxRecDepth 100000 in
theorem c_X1_fact_4 (l : Launch) (D : va_G) (y : Nat → ClassId) (E : Nat → Nat) (t : Nat → Int32) (o : Nat → Nat) (q b : Fld) (c bc n : Nat) (ar fi re : Int32) (hc : c ≤ 6) (hn : n < 2147483648) : zR l yX1_fact wsX1_fact { frames := 2, cells := 0, slots := 0, locals := 45 } D y [.ref (E 0), .int 4] (eW E y t o q b c bc n ar fi re) (some (.int ((heldN q c)))) := by
  refine zR.of (cc := cX1_fact) (maxL := 2) (ret := (some .int)) (own := RX1) (by decide) rfl (Nat.le_of_ble_eq_true rfl) rfl ?_
  intro p e s m args below meth cd ls hx hb hr hml hown hts hlocks hP hK hl
  have hl : lv_has ls 2 [(0, .ref (E 0)), (1, .int 4)] := hl
  refine lv_iload_n hx hb dX1_fact_0 rfl (lv_at hl 1 rfl) ?_
  refine lv_tableIn (off := 71) (tgt := 72) hx hb dX1_fact_1 (by decide) (by decide) rfl (by decide) ?_
  refine lv_aload_n hx hb dX1_fact_72 rfl (lv_at hl 0 rfl) ?_
  refine zcRV (As := []) (rest := []) (st1 := [.int ((heldN q c))]) ⟨hx, hb, hml, hown, hts⟩ (c_X1_heldWeirs l D y E t o q b c bc n ar fi re  (by omega)) (cwV 0 hts gX1_fact_X1_heldWeirs rfl rfl rfl (by decide +kernel) ⟨Nat.le_of_ble_eq_true rfl, Nat.le_of_ble_eq_true rfl⟩) hK hP (ci := 1) (q0 := 0) rfl rfl rfl rfl hl.1 rfl (lv_room (Nat.le_of_ble_eq_true rfl)) dX1_fact_73 ⟨Nat.le_of_ble_eq_true rfl, Nat.le_of_ble_eq_true rfl⟩ rfl ?_
  exact zR_i hx hb hr hlocks dX1_fact_76 rfl
set_option maxHeartbeats 4000000 in
set_option maxRecDepth 100000 in
theorem c_X1_fact_5 (l : Launch) (D : va_G) (y : Nat → ClassId) (E : Nat → Nat) (t : Nat → Int32) (o : Nat → Nat) (q b : Fld) (c bc n : Nat) (ar fi re : Int32) (hc : c ≤ 6) (hn : n < 2147483648) : zR l yX1_fact wsX1_fact { frames := 0, cells := 0, slots := 0, locals := 0 } D y [.ref (E 0), .int 5] (eW E y t o q b c bc n ar fi re) (some (.int (nI bc))) := by
  refine zR.of (cc := cX1_fact) (maxL := 2) (ret := (some .int)) (own := RX1) (by decide) rfl (Nat.le_of_ble_eq_true rfl) rfl ?_
  intro p e s m args below meth cd ls hx hb hr hml hown hts hlocks hP hK hl
  have hl : lv_has ls 2 [(0, .ref (E 0)), (1, .int 5)] := hl
  have hf51 : (Cond.fieldLink RX1 51 "StakeWeirs$Estuary" "bargeCount" "I").before args s = true := hts _ (by decide +kernel)
  have hinX1 : ∀ w ∈ wsX10, w ∈ wsX1_fact := by decide +kernel
  refine lv_iload_n hx hb dX1_fact_0 rfl (lv_at hl 1 rfl) ?_
  refine lv_tableIn (off := 76) (tgt := 77) hx hb dX1_fact_1 (by decide) (by decide) rfl (by decide) ?_
  refine lv_aload_n hx hb dX1_fact_77 rfl (lv_at hl 0 rfl) ?_
  refine va_get (D := D) (ci := 1) (v := .int (nI bc)) (C := RX1) (T := TX1) (N := 10) hx hb hts hinX1 hown hK hP (0) rfl rfl 5 (by decide) hf51 (fun _ h9 => h9) rfl dX1_fact_78 ?_
  exact zR_i hx hb hr hlocks dX1_fact_81 rfl
set_option maxHeartbeats 4000000 in
set_option maxRecDepth 100000 in
theorem c_X1_fact_6 (l : Launch) (D : va_G) (y : Nat → ClassId) (E : Nat → Nat) (t : Nat → Int32) (o : Nat → Nat) (q b : Fld) (c bc n : Nat) (ar fi re : Int32) (hc : c ≤ 6) (hn : n < 2147483648) : zR l yX1_fact wsX1_fact { frames := 0, cells := 0, slots := 0, locals := 0 } D y [.ref (E 0), .int 6] (eW E y t o q b c bc n ar fi re) (some (.int (ar))) := by
  refine zR.of (cc := cX1_fact) (maxL := 2) (ret := (some .int)) (own := RX1) (by decide) rfl (Nat.le_of_ble_eq_true rfl) rfl ?_
  intro p e s m args below meth cd ls hx hb hr hml hown hts hlocks hP hK hl
  have hl : lv_has ls 2 [(0, .ref (E 0)), (1, .int 6)] := hl
  have hf65 : (Cond.fieldLink RX1 65 "StakeWeirs$Estuary" "arrived" "I").before args s = true := hts _ (by decide +kernel)
  have hinX1 : ∀ w ∈ wsX10, w ∈ wsX1_fact := by decide +kernel
  refine lv_iload_n hx hb dX1_fact_0 rfl (lv_at hl 1 rfl) ?_
  refine lv_tableIn (off := 81) (tgt := 82) hx hb dX1_fact_1 (by decide) (by decide) rfl (by decide) ?_
  refine lv_aload_n hx hb dX1_fact_82 rfl (lv_at hl 0 rfl) ?_
  refine va_get (D := D) (ci := 1) (v := .int ar) (C := RX1) (T := TX1) (N := 10) hx hb hts hinX1 hown hK hP (0) rfl rfl 7 (by decide) hf65 (fun _ h9 => h9) rfl dX1_fact_83 ?_
  exact zR_i hx hb hr hlocks dX1_fact_86 rfl
set_option maxHeartbeats 4000000 in
set_option maxRecDepth 100000 in
theorem c_X1_fact_7 (l : Launch) (D : va_G) (y : Nat → ClassId) (E : Nat → Nat) (t : Nat → Int32) (o : Nat → Nat) (q b : Fld) (c bc n : Nat) (ar fi re : Int32) (hc : c ≤ 6) (hn : n < 2147483648) : zR l yX1_fact wsX1_fact { frames := 0, cells := 0, slots := 0, locals := 0 } D y [.ref (E 0), .int 7] (eW E y t o q b c bc n ar fi re) (some (.int (fi))) := by
  refine zR.of (cc := cX1_fact) (maxL := 2) (ret := (some .int)) (own := RX1) (by decide) rfl (Nat.le_of_ble_eq_true rfl) rfl ?_
  intro p e s m args below meth cd ls hx hb hr hml hown hts hlocks hP hK hl
  have hl : lv_has ls 2 [(0, .ref (E 0)), (1, .int 7)] := hl
  have hf68 : (Cond.fieldLink RX1 68 "StakeWeirs$Estuary" "fines" "I").before args s = true := hts _ (by decide +kernel)
  have hinX1 : ∀ w ∈ wsX10, w ∈ wsX1_fact := by decide +kernel
  refine lv_iload_n hx hb dX1_fact_0 rfl (lv_at hl 1 rfl) ?_
  refine lv_tableIn (off := 86) (tgt := 87) hx hb dX1_fact_1 (by decide) (by decide) rfl (by decide) ?_
  refine lv_aload_n hx hb dX1_fact_87 rfl (lv_at hl 0 rfl) ?_
  refine va_get (D := D) (ci := 1) (v := .int fi) (C := RX1) (T := TX1) (N := 10) hx hb hts hinX1 hown hK hP (0) rfl rfl 8 (by decide) hf68 (fun _ h9 => h9) rfl dX1_fact_88 ?_
  exact zR_i hx hb hr hlocks dX1_fact_91 rfl
set_option maxHeartbeats 4000000 in
set_option maxRecDepth 100000 in
theorem c_X1_fact_8 (l : Launch) (D : va_G) (y : Nat → ClassId) (E : Nat → Nat) (t : Nat → Int32) (o : Nat → Nat) (q b : Fld) (c bc n : Nat) (ar fi re : Int32) (hc : c ≤ 6) (hn : n < 2147483648) : zR l yX1_fact wsX1_fact { frames := 0, cells := 0, slots := 0, locals := 0 } D y [.ref (E 0), .int 8] (eW E y t o q b c bc n ar fi re) (some (.int (re))) := by
  refine zR.of (cc := cX1_fact) (maxL := 2) (ret := (some .int)) (own := RX1) (by decide) rfl (Nat.le_of_ble_eq_true rfl) rfl ?_
  intro p e s m args below meth cd ls hx hb hr hml hown hts hlocks hP hK hl
  have hl : lv_has ls 2 [(0, .ref (E 0)), (1, .int 8)] := hl
  have hf71 : (Cond.fieldLink RX1 71 "StakeWeirs$Estuary" "rents" "I").before args s = true := hts _ (by decide +kernel)
  have hinX1 : ∀ w ∈ wsX10, w ∈ wsX1_fact := by decide +kernel
  refine lv_iload_n hx hb dX1_fact_0 rfl (lv_at hl 1 rfl) ?_
  refine lv_tableIn (off := 91) (tgt := 92) hx hb dX1_fact_1 (by decide) (by decide) rfl (by decide) ?_
  refine lv_aload_n hx hb dX1_fact_92 rfl (lv_at hl 0 rfl) ?_
  refine va_get (D := D) (ci := 1) (v := .int re) (C := RX1) (T := TX1) (N := 10) hx hb hts hinX1 hown hK hP (0) rfl rfl 9 (by decide) hf71 (fun _ h9 => h9) rfl dX1_fact_93 ?_
  exact zR_i hx hb hr hlocks dX1_fact_96 rfl
set_option maxHeartbeats 4000000 in
set_option maxRecDepth 100000 in
theorem c_X1_fact_9 (l : Launch) (D : va_G) (y : Nat → ClassId) (E : Nat → Nat) (t : Nat → Int32) (o : Nat → Nat) (q b : Fld) (c bc n : Nat) (ar fi re : Int32) (hc : c ≤ 6) (hn : n < 2147483648) : zR l yX1_fact wsX1_fact { frames := 2, cells := 0, slots := 0, locals := 45 } D y [.ref (E 0), .int 9] (eW E y t o q b c bc n ar fi re) (some (.int ((eelsN q c)))) := by
  refine zR.of (cc := cX1_fact) (maxL := 2) (ret := (some .int)) (own := RX1) (by decide) rfl (Nat.le_of_ble_eq_true rfl) rfl ?_
  intro p e s m args below meth cd ls hx hb hr hml hown hts hlocks hP hK hl
  have hl : lv_has ls 2 [(0, .ref (E 0)), (1, .int 9)] := hl
  refine lv_iload_n hx hb dX1_fact_0 rfl (lv_at hl 1 rfl) ?_
  refine lv_tableOut (tgt := 97) hx hb dX1_fact_1 (by decide) (by decide) ?_
  refine lv_aload_n hx hb dX1_fact_97 rfl (lv_at hl 0 rfl) ?_
  refine zcRV (As := []) (rest := []) (st1 := [.int ((eelsN q c))]) ⟨hx, hb, hml, hown, hts⟩ (c_X1_allEels l D y E t o q b c bc n ar fi re  (by omega)) (cwV 0 hts gX1_fact_X1_allEels rfl rfl rfl (by decide +kernel) ⟨Nat.le_of_ble_eq_true rfl, Nat.le_of_ble_eq_true rfl⟩) hK hP (ci := 1) (q0 := 0) rfl rfl rfl rfl hl.1 rfl (lv_room (Nat.le_of_ble_eq_true rfl)) dX1_fact_98 ⟨Nat.le_of_ble_eq_true rfl, Nat.le_of_ble_eq_true rfl⟩ rfl ?_
  exact zR_i hx hb hr hlocks dX1_fact_101 rfl
set_option maxHeartbeats 4000000 in
set_option maxRecDepth 100000 in
theorem c_X1_bargeFact_0 (l : Launch) (D : va_G) (y : Nat → ClassId) (E : Nat → Nat) (t : Nat → Int32) (o : Nat → Nat) (q b : Fld) (c bc n : Nat) (ar fi re : Int32) (j : Nat) (hj : j < 5) (hc : c ≤ 6) : zR l yX1_bargeFact wsX1_bargeFact { frames := 0, cells := 0, slots := 0, locals := 0 } D y [.ref (E 0), .ref (E (11 + j)), .int 0] (eW E y t o q b c bc n ar fi re) (some (.int (b 1 j))) := by
  refine zR.of (cc := cX1_bargeFact) (maxL := 3) (ret := (some .int)) (own := RX1) (by decide) rfl (Nat.le_of_ble_eq_true rfl) rfl ?_
  intro p e s m args below meth cd ls hx hb hr hml hown hts hlocks hP hK hl
  have hl : lv_has ls 3 [(0, .ref (E 0)), (1, .ref (E (11 + j))), (2, .int 0)] := hl
  have hf120 : (Cond.fieldLink RX1 120 "StakeWeirs$Barge" "wide" "I").before args s = true := hts _ (by decide +kernel)
  have hinX0 : ∀ w ∈ wsX00, w ∈ wsX1_bargeFact := by decide +kernel
  refine lv_iload_n hx hb dX1_bargeFact_0 rfl (lv_at hl 2 rfl) ?_
  refine lv_tableIn (off := 27) (tgt := 28) hx hb dX1_bargeFact_1 (by decide) (by decide) rfl (by decide) ?_
  refine lv_aload_n hx hb dX1_bargeFact_28 rfl (lv_at hl 1 rfl) ?_
  refine va_get (D := D) (ci := 0) (v := .int ((b 1 j))) (C := RX0) (T := TX0) (N := 4) hx hb hts hinX0 hown hK hP (11 + j) (eW_b (by omega)) rfl 1 (by decide) hf120 (fun _ h9 => h9) rfl dX1_bargeFact_29 ?_
  exact zR_i hx hb hr hlocks dX1_bargeFact_32 rfl
set_option maxHeartbeats 4000000 in
set_option maxRecDepth 100000 in
theorem c_X1_bargeFact_1 (l : Launch) (D : va_G) (y : Nat → ClassId) (E : Nat → Nat) (t : Nat → Int32) (o : Nat → Nat) (q b : Fld) (c bc n : Nat) (ar fi re : Int32) (j : Nat) (hj : j < 5) (hc : c ≤ 6) : zR l yX1_bargeFact wsX1_bargeFact { frames := 0, cells := 0, slots := 0, locals := 0 } D y [.ref (E 0), .ref (E (11 + j)), .int 1] (eW E y t o q b c bc n ar fi re) (some (.int (b 2 j))) := by
  refine zR.of (cc := cX1_bargeFact) (maxL := 3) (ret := (some .int)) (own := RX1) (by decide) rfl (Nat.le_of_ble_eq_true rfl) rfl ?_
  intro p e s m args below meth cd ls hx hb hr hml hown hts hlocks hP hK hl
  have hl : lv_has ls 3 [(0, .ref (E 0)), (1, .ref (E (11 + j))), (2, .int 1)] := hl
  have hf123 : (Cond.fieldLink RX1 123 "StakeWeirs$Barge" "place" "I").before args s = true := hts _ (by decide +kernel)
  have hinX0 : ∀ w ∈ wsX00, w ∈ wsX1_bargeFact := by decide +kernel
  refine lv_iload_n hx hb dX1_bargeFact_0 rfl (lv_at hl 2 rfl) ?_
  refine lv_tableIn (off := 32) (tgt := 33) hx hb dX1_bargeFact_1 (by decide) (by decide) rfl (by decide) ?_
  refine lv_aload_n hx hb dX1_bargeFact_33 rfl (lv_at hl 1 rfl) ?_
  refine va_get (D := D) (ci := 0) (v := .int ((b 2 j))) (C := RX0) (T := TX0) (N := 4) hx hb hts hinX0 hown hK hP (11 + j) (eW_b (by omega)) rfl 2 (by decide) hf123 (fun _ h9 => h9) rfl dX1_bargeFact_34 ?_
  exact zR_i hx hb hr hlocks dX1_bargeFact_37 rfl
set_option maxHeartbeats 4000000 in
set_option maxRecDepth 100000 in
theorem c_X1_bargeFact_2 (l : Launch) (D : va_G) (y : Nat → ClassId) (E : Nat → Nat) (t : Nat → Int32) (o : Nat → Nat) (q b : Fld) (c bc n : Nat) (ar fi re : Int32) (j : Nat) (hj : j < 5) (hc : c ≤ 6) : zR l yX1_bargeFact wsX1_bargeFact { frames := 0, cells := 0, slots := 0, locals := 0 } D y [.ref (E 0), .ref (E (11 + j)), .int 2] (eW E y t o q b c bc n ar fi re) (some (.int (b 3 j))) := by
  refine zR.of (cc := cX1_bargeFact) (maxL := 3) (ret := (some .int)) (own := RX1) (by decide) rfl (Nat.le_of_ble_eq_true rfl) rfl ?_
  intro p e s m args below meth cd ls hx hb hr hml hown hts hlocks hP hK hl
  have hl : lv_has ls 3 [(0, .ref (E 0)), (1, .ref (E (11 + j))), (2, .int 2)] := hl
  have hf124 : (Cond.fieldLink RX1 124 "StakeWeirs$Barge" "broken" "I").before args s = true := hts _ (by decide +kernel)
  have hinX0 : ∀ w ∈ wsX00, w ∈ wsX1_bargeFact := by decide +kernel
  refine lv_iload_n hx hb dX1_bargeFact_0 rfl (lv_at hl 2 rfl) ?_
  refine lv_tableIn (off := 37) (tgt := 38) hx hb dX1_bargeFact_1 (by decide) (by decide) rfl (by decide) ?_
  refine lv_aload_n hx hb dX1_bargeFact_38 rfl (lv_at hl 1 rfl) ?_
  refine va_get (D := D) (ci := 0) (v := .int ((b 3 j))) (C := RX0) (T := TX0) (N := 4) hx hb hts hinX0 hown hK hP (11 + j) (eW_b (by omega)) rfl 3 (by decide) hf124 (fun _ h9 => h9) rfl dX1_bargeFact_39 ?_
  exact zR_i hx hb hr hlocks dX1_bargeFact_42 rfl
set_option maxHeartbeats 4000000 in
set_option maxRecDepth 100000 in
theorem c_X1_bargeFact_3 (l : Launch) (D : va_G) (y : Nat → ClassId) (E : Nat → Nat) (t : Nat → Int32) (o : Nat → Nat) (q b : Fld) (c bc n : Nat) (ar fi re : Int32) (j : Nat) (hj : j < 5) (hc : c ≤ 6) : zR l yX1_bargeFact wsX1_bargeFact { frames := 3, cells := 0, slots := 0, locals := 66 } D y [.ref (E 0), .ref (E (11 + j)), .int 3] (eW E y t o q b c bc n ar fi re) (some (.int ((nextE q c (b 2 j) (b 1 j)).1))) := by
  refine zR.of (cc := cX1_bargeFact) (maxL := 3) (ret := (some .int)) (own := RX1) (by decide) rfl (Nat.le_of_ble_eq_true rfl) rfl ?_
  intro p e s m args below meth cd ls hx hb hr hml hown hts hlocks hP hK hl
  have hl : lv_has ls 3 [(0, .ref (E 0)), (1, .ref (E (11 + j))), (2, .int 3)] := hl
  refine lv_iload_n hx hb dX1_bargeFact_0 rfl (lv_at hl 2 rfl) ?_
  refine lv_tableOut (tgt := 43) hx hb dX1_bargeFact_1 (by decide) (by decide) ?_
  refine lv_aload_n hx hb dX1_bargeFact_43 rfl (lv_at hl 0 rfl) ?_
  refine lv_aload_n hx hb dX1_bargeFact_44 rfl (lv_at hl 1 rfl) ?_
  refine zcRV (As := [.ref (E (11 + j))]) (rest := []) (st1 := [.int ((nextE q c (b 2 j) (b 1 j)).1)]) ⟨hx, hb, hml, hown, hts⟩ (c_X1_nextInWay l D y E t o q b c bc n ar fi re j (by omega) (by omega)) (cwV 1 hts gX1_bargeFact_X1_nextInWay rfl rfl rfl (by decide +kernel) ⟨Nat.le_of_ble_eq_true rfl, Nat.le_of_ble_eq_true rfl⟩) hK hP (ci := 1) (q0 := 0) rfl rfl rfl rfl hl.1 rfl (lv_room (Nat.le_of_ble_eq_true rfl)) dX1_bargeFact_45 ⟨Nat.le_of_ble_eq_true rfl, Nat.le_of_ble_eq_true rfl⟩ rfl ?_
  exact zR_i hx hb hr hlocks dX1_bargeFact_48 rfl
end
section
theorem zM.ofH {l : Launch} {n : MethodName} {ws ws' : List Cond} {rm : Room} {D : va_G} {y : Nat → ClassId} {av : List Value} {w w1 : va_W} {sz : Nat} {rv : Option Value} {mc ms : Nat} {cc : ByteArray} {maxL : Nat} {ret : Option FieldType} {own : String}
    (hy : plainName n.cls = true) (hw : ws = Cond.code n cc maxL ret :: ws') (hlen : (lg_sl av).length ≤ maxL) (ho : n.cls = own)
    (body : ∀ (p : Program) (e : Env) (s : State) (m : MethodId) (args : Array Value) (below : List Frame) (meth : Method) (c : Code) (ls : Array Slot) (A : Nat → Prop) (H : Heap) (locs : List Loc), p.tables.exec = Jvm.exec → c.code = cc → meth.sig.returnType = ret → c.maxLocals = maxL → s.vm.findClass own = some m.cls → (∀ x ∈ ws, x.before args s = true) → meth.locks = false → va_P D vwCl w H → va_K D vwCl (tyL y) s → va_D A w → (∀ q : Nat, s.heap.size ≤ q → A q) → va_S A s.heap H locs → lv_has ls maxL (lv_args 0 av) → meth.name = n.name → W p l e rm s m args below meth c H locs 0 0 (MQ below (zMQ rv D w1 A) args s mc ms A) (F0 m 0 ls [])) : zM l n ws rm D y av w sz rv w1 mc ms :=
  zM.of hy hw hlen ho (fun p e s m args below meth c ls A h1 h2 h3 h4 h5 h6 h7 hP hK hD hA hS hl hin => body p e s m args below meth c ls A s.heap [] h1 h2 h3 h4 h5 h6 h7 hP hK hD hA hS hl hin)
theorem underE_t {b : Fld} {x : Int32} : ∀ {n k : Nat}, k < n → b 0 k = x → underE b n x = true
  | 0, _, h, _ => absurd h (Nat.not_lt_zero _)
  | n + 1, k, h, e => by
    show (underE b n x || decide (b 0 n = x)) = true
    rcases Nat.lt_or_eq_of_le (Nat.lt_succ_iff.mp h) with h1 | h1
    · rw [underE_t h1 e, Bool.true_or]
    · subst h1; rw [e]; simp
theorem underE_s (b : Fld) (n : Nat) (x : Int32) : underE b (n + 1) x = (underE b n x || decide (b 0 n = x)) := rfl
theorem z_updO (o : Nat → Nat) (k v : Nat) : upd (fun i => nI (o i)) k (nI v) = fun i => nI (va_up o k v i) := by
  funext i
  unfold upd va_up
  split <;> rfl
theorem catchE_s (o : Nat → Nat) (q : Fld) (k : Nat) (x : Int32) : itN (catchS o) (k + 1) (q, x) = catchS o k (itN (catchS o) k (q, x)) := rfl
def catchP (o : Nat → Nat) (q : Fld) (k : Nat) (x : Int32) : Fld × Int32 := itN (catchS o) k (q, x)
theorem catchP_s (o : Nat → Nat) (q : Fld) (k : Nat) (x : Int32) : catchP o q (k + 1) x = catchS o k (catchP o q k x) := rfl
theorem brkE_s (q : Fld) (k : Nat) (bp bw fi br : Int32) : brkE q (k + 1) bp bw fi br = brkS bp bw k (brkE q k bp bw fi br) := rfl
theorem movE_s (q b : Fld) (c k : Nat) (fi : Int32) : movE q b c (k + 1) fi = movS c k (movE q b c k fi) := rfl
theorem lvE_s (b : Fld) (k : Nat) : lvE b (k + 1) = lvS k (lvE b k) := rfl
theorem rotE_s (q : Fld) (k n : Nat) : rotE q (k + 1) n = (if heldB (rotE q k n) k = true then loseW (rotE q k n) k (rotI n) else rotE q k n) := rfl
theorem rentE_s (q : Fld) (k : Nat) (re : Int32) : rentE q (k + 1) re = rentS k (rentE q k re) := rfl
theorem nightsE_s (t : Nat → Int32) (o : Nat → Nat) (c k : Nat) (a : Nst) : nightsE t o c (k + 1) a = nightE t o c (nightsE t o c k a) := rfl
theorem lvE_le (b : Fld) (k : Nat) : (lvE b k).2 ≤ k := by
  induction k with
  | zero => exact Nat.le_refl _
  | succ k ih =>
    rw [lvE_s]
    unfold lvS
    split
    · exact Nat.succ_le_succ ih
    · exact Nat.le_succ_of_le ih
theorem nightsE_n (t : Nat → Int32) (o : Nat → Nat) (c k : Nat) (a : Nst) : (nightsE t o c k a).2.2.2.1 = a.2.2.2.1 + k := by
  induction k with
  | zero => rfl
  | succ k ih => rw [nightsE_s]; show (nightsE t o c k a).2.2.2.1 + 1 = _; rw [ih]; omega
theorem nightsE_b (t : Nat → Int32) (o : Nat → Nat) (c k : Nat) (a : Nst) : (nightsE t o c k a).2.2.1 ≤ a.2.2.1 := by
  induction k with
  | zero => exact Nat.le_refl _
  | succ k ih => rw [nightsE_s]; exact Nat.le_trans (lvE_le _ _) ih
set_option maxHeartbeats 4000000 in
set_option maxRecDepth 100000 in
theorem c_X1_isUnderWay (l : Launch) (D : va_G) (y : Nat → ClassId) (E : Nat → Nat) (t : Nat → Int32) (o : Nat → Nat) (q b : Fld) (c bc n : Nat) (ar fi re : Int32) (x : Int32) (hbc : bc ≤ 5) : zR l yX1_isUnderWay wsX1_isUnderWay { frames := 1, cells := 0, slots := 0, locals := 22 } D y [.ref (E 0), .int x] (eW E y t o q b c bc n ar fi re) (some (.int (zb (underE b bc x)))) := by
  refine zR.of (cc := cX1_isUnderWay) (maxL := 4) (ret := (some .boolean)) (own := RX1) (by decide) rfl (Nat.le_of_ble_eq_true rfl) rfl ?_
  intro p e s m args below meth cd ls hx hb hr hml hown hts hlocks hP hK hl
  have hl : lv_has ls 4 [(0, .ref (E 0)), (1, .int x)] := hl
  have hf51 : (Cond.fieldLink RX1 51 "StakeWeirs$Estuary" "bargeCount" "I").before args s = true := hts _ (by decide +kernel)
  have hinX1 : ∀ w ∈ wsX10, w ∈ wsX1_isUnderWay := by decide +kernel
  have hf98 : (Cond.fieldLink RX1 98 "StakeWeirs$Barge" "ticket" "I").before args s = true := hts _ (by decide +kernel)
  have hinX0 : ∀ w ∈ wsX00, w ∈ wsX1_isUnderWay := by decide +kernel
  refine lv_iconst (v := 0) hx hb dX1_isUnderWay_0 (by decide) ?_
  refine lv_istore_n (lv' := [(2, .int 0), (0, .ref (E 0)), (1, .int x)]) hx hb dX1_isUnderWay_1 rfl hl (by decide) rfl (fun ls hl => ?_)
  have loop1 : ∀ k, k ≤ bc → ∀ (ls : Array Slot), underE b k x = false → lv_has ls 4 [(2, .int (nI k)), (0, .ref (E 0)), (1, .int x)] → W p l e ({ frames := 1, cells := 0, slots := 0, locals := 22 } : Room) s m args below meth cd s.heap [] 0 0 (MQ below (zRQ (some (.int (zb (underE b bc x))))) args s 0 0 (fun _ => False)) (F0 m 2 ls []) := by
    refine down ?_ ?_
    · intro ls hu hl
      refine lv_iload_n hx hb dX1_isUnderWay_2 rfl (lv_at hl 0 rfl) ?_
      refine lv_aload_n hx hb dX1_isUnderWay_3 rfl (lv_at hl 1 rfl) ?_
      refine va_get (D := D) (ci := 1) (v := .int (nI bc)) (C := RX1) (T := TX1) (N := 10) hx hb hts hinX1 hown hK hP (0) rfl rfl 5 (by decide) hf51 (fun _ h9 => h9) rfl dX1_isUnderWay_4 ?_
      refine lv_icmp_ge (tgt := 36) hx hb dX1_isUnderWay_7 (by decide) (fun c2 => ?_) (fun c2 => ?_)
      · have d2 := Int32.not_lt.mpr c2
        refine lv_iconst (v := 0) hx hb dX1_isUnderWay_36 (by decide) ?_
        exact zR_z hx hb hr hlocks dX1_isUnderWay_37 (Or.inl rfl) (by rw [hu]; rfl)
      · exact absurd (nI_le (a := bc) (b := bc) (by omega) (by omega)) c2
    · intro k hkk ihk ls hu hl
      refine lv_iload_n hx hb dX1_isUnderWay_2 rfl (lv_at hl 0 rfl) ?_
      refine lv_aload_n hx hb dX1_isUnderWay_3 rfl (lv_at hl 1 rfl) ?_
      refine va_get (D := D) (ci := 1) (v := .int (nI bc)) (C := RX1) (T := TX1) (N := 10) hx hb hts hinX1 hown hK hP (0) rfl rfl 5 (by decide) hf51 (fun _ h9 => h9) rfl dX1_isUnderWay_4 ?_
      refine lv_icmp_ge (tgt := 36) hx hb dX1_isUnderWay_7 (by decide) (fun c3 => ?_) (fun c3 => ?_)
      · exact absurd c3 (nI_ge (a := k) (b := bc) (by omega) (by omega))
      · have d3 := Int32.not_le.mp c3
        refine lv_aload_n hx hb dX1_isUnderWay_10 rfl (lv_at hl 1 rfl) ?_
        refine lv_iload_n hx hb dX1_isUnderWay_11 rfl (lv_at hl 0 rfl) ?_
        refine zcRV (As := [.int (nI k)]) (rest := []) (st1 := [.ref (E (11 + k))]) ⟨hx, hb, hml, hown, hts⟩ (c_X1_bargeAt l D y E t o q b c bc n ar fi re k (by omega) (by omega)) (cwV 1 hts gX1_isUnderWay_X1_bargeAt rfl rfl rfl (by decide +kernel) ⟨Nat.le_of_ble_eq_true rfl, Nat.le_of_ble_eq_true rfl⟩) hK hP (ci := 1) (q0 := 0) rfl rfl rfl rfl hl.1 rfl (lv_room (Nat.le_of_ble_eq_true rfl)) dX1_isUnderWay_12 ⟨Nat.le_of_ble_eq_true rfl, Nat.le_of_ble_eq_true rfl⟩ rfl ?_
        refine lv_astore_n (lv' := [(3, .ref (E (11 + k))), (2, .int (nI k)), (0, .ref (E 0)), (1, .int x)]) hx hb dX1_isUnderWay_15 rfl hl (by decide) rfl (fun ls hl => ?_)
        refine lv_aload_n hx hb dX1_isUnderWay_16 rfl (lv_at hl 0 rfl) ?_
        refine lv_ifnull hx hb dX1_isUnderWay_17 ?_
        refine lv_aload_n hx hb dX1_isUnderWay_20 rfl (lv_at hl 0 rfl) ?_
        refine va_get (D := D) (ci := 0) (v := .int ((b 0 k))) (C := RX0) (T := TX0) (N := 4) hx hb hts hinX0 hown hK hP (11 + k) (eW_b (by omega)) rfl 0 (by decide) hf98 (fun _ h9 => h9) rfl dX1_isUnderWay_21 ?_
        refine lv_iload_n hx hb dX1_isUnderWay_24 rfl (lv_at hl 3 rfl) ?_
        refine lv_icmp_ne (tgt := 30) hx hb dX1_isUnderWay_25 (by decide) (fun c4 => ?_) (fun c4 => ?_)
        · have d4 := c4
          refine lv_iinc (v := nI (k + 1)) (lv' := [(2, .int (nI (k + 1))), (3, .ref (E (11 + k))), (0, .ref (E 0)), (1, .int x)]) hx hb dX1_isUnderWay_30 hl (k := 1) rfl (nI_1 _) (by decide) rfl (fun ls hl => ?_)
          refine lv_goto (tgt := 2) hx hb dX1_isUnderWay_33 (by decide) ?_
          refine ihk ls (by rw [underE_s, hu]; simp [c4, d4]) ?_
          skip
          exact lv_sub hl [0, 2, 3] rfl
        · have d4 := c4
          refine lv_iconst (v := 1) hx hb dX1_isUnderWay_28 (by decide) ?_
          exact zR_z hx hb hr hlocks dX1_isUnderWay_29 (Or.inr rfl) (by rw [underE_t (k := k) hkk (by first | exact d4)]; rfl)
  exact loop1 0 (Nat.zero_le _) ls rfl (lv_sub hl [0, 1, 2] rfl)
set_option maxHeartbeats 4000000 in
set_option maxRecDepth 100000 in
theorem c_X1_setTableEels (l : Launch) (D : va_G) (y : Nat → ClassId) (E : Nat → Nat) (t : Nat → Int32) (o : Nat → Nat) (q b : Fld) (c bc n : Nat) (ar fi re : Int32) (k : Nat) (x : Int32) (hk : k < 7) (sz : Nat) : zM l yX1_setTableEels wsX1_setTableEels { frames := 0, cells := 0, slots := 0, locals := 0 } D y [.ref (E 0), .int (nI k), .int x] (eW E y t o q b c bc n ar fi re) sz (none) (eW E y (upd t k x) o q b c bc n ar fi re) 0 0 := by
  refine zM.ofH (cc := cX1_setTableEels) (maxL := 3) (ret := none) (own := RX1) (by decide) rfl (Nat.le_of_ble_eq_true rfl) rfl ?_
  intro p e s m args below meth cd ls A H locs hx hb hr hml hown hts hlocks hP hK hD hA hS hl hin
  have hS0 := hS
  have hl : lv_has ls 3 [(0, .ref (E 0)), (1, .int (nI k)), (2, .int x)] := hl
  have hf9 : (Cond.fieldLink RX1 9 "StakeWeirs$Estuary" "table" "[I").before args s = true := hts _ (by decide +kernel)
  have hinX1 : ∀ w ∈ wsX10, w ∈ wsX1_setTableEels := by decide +kernel
  refine lv_iload_n hx hb dX1_setTableEels_0 rfl (lv_at hl 1 rfl) ?_
  refine lv_if_lt (tgt := 20) hx hb dX1_setTableEels_1 (by decide) (fun c1 => ?_) (fun c1 => ?_)
  · exact absurd c1 (nI_nlt (a := k) (b := 0) (by omega) (by omega))
  · have d1 := Int32.not_lt.mp c1
    refine lv_iload_n hx hb dX1_setTableEels_4 rfl (lv_at hl 1 rfl) ?_
    refine lv_aload_n hx hb dX1_setTableEels_5 rfl (lv_at hl 0 rfl) ?_
    refine va_get (D := D) (ci := 1) (v := .ref (E 1)) (C := RX1) (T := TX1) (N := 10) hx hb hts hinX1 hown hK hP (0) rfl rfl 0 (by decide) hf9 (fun _ h9 => h9) rfl dX1_setTableEels_6 ?_
    refine va_alen hx hb hK hP 1 0 (v := nI 7) rfl rfl rfl dX1_setTableEels_9 ?_
    refine lv_icmp_ge (tgt := 20) hx hb dX1_setTableEels_10 (by decide) (fun c2 => ?_) (fun c2 => ?_)
    · exact absurd c2 (nI_ge (a := k) (b := 7) (by omega) (by omega))
    · have d2 := Int32.not_le.mp c2
      refine lv_aload_n hx hb dX1_setTableEels_13 rfl (lv_at hl 0 rfl) ?_
      refine va_get (D := D) (ci := 1) (v := .ref (E 1)) (C := RX1) (T := TX1) (N := 10) hx hb hts hinX1 hown hK hP (0) rfl rfl 0 (by decide) hf9 (fun _ h9 => h9) rfl dX1_setTableEels_14 ?_
      refine lv_iload_n hx hb dX1_setTableEels_17 rfl (lv_at hl 1 rfl) ?_
      refine lv_iload_n hx hb dX1_setTableEels_18 rfl (lv_at hl 2 rfl) ?_
      refine z_ast hx hb hK hP hD hS 1 (f := t) rfl k rfl (by omega) (by decide) rfl dX1_setTableEels_19 (fun H locs hP hD hS => ?_)
      have hP : va_P D vwCl (eW E y (upd t k x) o q b c bc n ar fi re) H := hP
      have hD : va_D A (eW E y (upd t k x) o q b c bc n ar fi re) := hD
      exact zM_v hx hb hr hlocks hS dX1_setTableEels_20 rfl hP
set_option maxHeartbeats 4000000 in
set_option maxRecDepth 100000 in
theorem c_X1_copyWeir (l : Launch) (D : va_G) (y : Nat → ClassId) (h h2 : Nat) (q q2 : Fld) (k k2 : Nat) (h01 : q2 6 k2 = 0 ∨ q2 6 k2 = 1)  (sz : Nat) : zM l yX1_copyWeir wsX1_copyWeir { frames := 1, cells := 0, slots := 0, locals := 21 } D y [.ref h, .ref h2] ([(h, .inr (2, qF q k)), (h2, .inr (2, qF q2 k2))]) sz (none) ([(h, .inr (2, qF (cpF q k q2 k2) k)), (h2, .inr (2, qF q2 k2))]) 0 0 := by
  refine zM.ofH (cc := cX1_copyWeir) (maxL := 2) (ret := none) (own := RX1) (by decide) rfl (Nat.le_of_ble_eq_true rfl) rfl ?_
  intro p e s m args below meth cd ls A H locs hx hb hr hml hown hts hlocks hP hK hD hA hS hl hin
  have hS0 := hS
  have hl : lv_has ls 2 [(0, .ref h), (1, .ref h2)] := hl
  refine lv_aload_n hx hb dX1_copyWeir_0 rfl (lv_at hl 0 rfl) ?_
  refine lv_ifnull hx hb dX1_copyWeir_1 ?_
  refine lv_aload_n hx hb dX1_copyWeir_4 rfl (lv_at hl 1 rfl) ?_
  refine lv_ifnull hx hb dX1_copyWeir_5 ?_
  refine lv_aload_n hx hb dX1_copyWeir_8 rfl (lv_at hl 0 rfl) ?_
  refine lv_aload_n hx hb dX1_copyWeir_9 rfl (lv_at hl 1 rfl) ?_
  refine zcMV (As := [.ref h2]) (rest := []) (st1 := []) (cells1 := 0) (slots1 := 0) ⟨hx, hb, hml, hown, hts⟩ (c_X2_copyFrom l D y h h2 q q2 k k2 h01 _) (cwV 1 hts gX1_copyWeir_X2_copyFrom rfl rfl rfl (by decide +kernel) ⟨Nat.le_of_ble_eq_true rfl, Nat.le_of_ble_eq_true rfl⟩) hK hP (z_D_T hD) (ci := 2) (q0 := 0) rfl rfl rfl rfl hl.1 rfl (lv_room (Nat.le_of_ble_eq_true rfl)) dX1_copyWeir_10 hS (z_sub_F hD hS hA z_in_r) ⟨Nat.le_of_ble_eq_true rfl, Nat.le_of_ble_eq_true rfl⟩ rfl rfl rfl (fun H locs hP1 hz hfr hS => ?_)
  have hP := hP1
  exact zM_v hx hb hr hlocks hS dX1_copyWeir_13 rfl hP
set_option maxHeartbeats 4000000 in
set_option maxRecDepth 100000 in
theorem c_X1_copyBarge (l : Launch) (D : va_G) (y : Nat → ClassId) (h h2 : Nat) (b b2 : Fld) (k k2 : Nat)  (sz : Nat) : zM l yX1_copyBarge wsX1_copyBarge { frames := 1, cells := 0, slots := 0, locals := 21 } D y [.ref h, .ref h2] ([(h, .inr (0, bF b k)), (h2, .inr (0, bF b2 k2))]) sz (none) ([(h, .inr (0, bF (cpF b k b2 k2) k)), (h2, .inr (0, bF b2 k2))]) 0 0 := by
  refine zM.ofH (cc := cX1_copyBarge) (maxL := 2) (ret := none) (own := RX1) (by decide) rfl (Nat.le_of_ble_eq_true rfl) rfl ?_
  intro p e s m args below meth cd ls A H locs hx hb hr hml hown hts hlocks hP hK hD hA hS hl hin
  have hS0 := hS
  have hl : lv_has ls 2 [(0, .ref h), (1, .ref h2)] := hl
  refine lv_aload_n hx hb dX1_copyBarge_0 rfl (lv_at hl 0 rfl) ?_
  refine lv_ifnull hx hb dX1_copyBarge_1 ?_
  refine lv_aload_n hx hb dX1_copyBarge_4 rfl (lv_at hl 1 rfl) ?_
  refine lv_ifnull hx hb dX1_copyBarge_5 ?_
  refine lv_aload_n hx hb dX1_copyBarge_8 rfl (lv_at hl 0 rfl) ?_
  refine lv_aload_n hx hb dX1_copyBarge_9 rfl (lv_at hl 1 rfl) ?_
  refine zcMV (As := [.ref h2]) (rest := []) (st1 := []) (cells1 := 0) (slots1 := 0) ⟨hx, hb, hml, hown, hts⟩ (c_X0_copyFrom l D y h h2 b b2 k k2 _) (cwV 1 hts gX1_copyBarge_X0_copyFrom rfl rfl rfl (by decide +kernel) ⟨Nat.le_of_ble_eq_true rfl, Nat.le_of_ble_eq_true rfl⟩) hK hP (z_D_T hD) (ci := 0) (q0 := 0) rfl rfl rfl rfl hl.1 rfl (lv_room (Nat.le_of_ble_eq_true rfl)) dX1_copyBarge_10 hS (z_sub_F hD hS hA z_in_r) ⟨Nat.le_of_ble_eq_true rfl, Nat.le_of_ble_eq_true rfl⟩ rfl rfl rfl (fun H locs hP1 hz hfr hS => ?_)
  have hP := hP1
  exact zM_v hx hb hr hlocks hS dX1_copyBarge_13 rfl hP
set_option maxHeartbeats 4000000 in
set_option maxRecDepth 100000 in
theorem c_X1_copyBarge_self (l : Launch) (D : va_G) (y : Nat → ClassId) (h : Nat) (b : Fld) (k : Nat)  (sz : Nat) : zM l yX1_copyBarge wsX1_copyBarge { frames := 1, cells := 0, slots := 0, locals := 21 } D y [.ref h, .ref h] ([(h, .inr (0, bF b k))]) sz (none) ([(h, .inr (0, bF b k))]) 0 0 := by
  refine zM.ofH (cc := cX1_copyBarge) (maxL := 2) (ret := none) (own := RX1) (by decide) rfl (Nat.le_of_ble_eq_true rfl) rfl ?_
  intro p e s m args below meth cd ls A H locs hx hb hr hml hown hts hlocks hP hK hD hA hS hl hin
  have hS0 := hS
  have hl : lv_has ls 2 [(0, .ref h), (1, .ref h)] := hl
  refine lv_aload_n hx hb dX1_copyBarge_0 rfl (lv_at hl 0 rfl) ?_
  refine lv_ifnull hx hb dX1_copyBarge_1 ?_
  refine lv_aload_n hx hb dX1_copyBarge_4 rfl (lv_at hl 1 rfl) ?_
  refine lv_ifnull hx hb dX1_copyBarge_5 ?_
  refine lv_aload_n hx hb dX1_copyBarge_8 rfl (lv_at hl 0 rfl) ?_
  refine lv_aload_n hx hb dX1_copyBarge_9 rfl (lv_at hl 1 rfl) ?_
  refine zcMV (As := [.ref h]) (rest := []) (st1 := []) (cells1 := 0) (slots1 := 0) ⟨hx, hb, hml, hown, hts⟩ (c_X0_copyFrom_self l D y h b k _) (cwV 1 hts gX1_copyBarge_X0_copyFrom rfl rfl rfl (by decide +kernel) ⟨Nat.le_of_ble_eq_true rfl, Nat.le_of_ble_eq_true rfl⟩) hK hP (z_D_T hD) (ci := 0) (q0 := 0) rfl rfl rfl rfl hl.1 rfl (lv_room (Nat.le_of_ble_eq_true rfl)) dX1_copyBarge_10 hS (z_sub_F hD hS hA z_in_r) ⟨Nat.le_of_ble_eq_true rfl, Nat.le_of_ble_eq_true rfl⟩ rfl rfl rfl (fun H locs hP1 hz hfr hS => ?_)
  have hP := hP1
  exact zM_v hx hb hr hlocks hS dX1_copyBarge_13 rfl hP
set_option maxHeartbeats 4000000 in
set_option maxRecDepth 100000 in
theorem c_X1_catchEels (l : Launch) (D : va_G) (y : Nat → ClassId) (E : Nat → Nat) (t : Nat → Int32) (o : Nat → Nat) (q b : Fld) (c bc n : Nat) (ar fi re : Int32) (hc : c ≤ 6) (hn : n < 2147483648) (ho : ∀ i, i < c → o i < c) (sz : Nat) : zM l yX1_catchEels wsX1_catchEels { frames := 3, cells := 0, slots := 0, locals := 65 } D y [.ref (E 0)] (eW E y t o q b c bc n ar fi re) sz (none) (eW E y t o (catchE o q c (runI t n)) b c bc n ar fi re) 0 0 := by
  refine zM.ofH (cc := cX1_catchEels) (maxL := 4) (ret := none) (own := RX1) (by decide) rfl (Nat.le_of_ble_eq_true rfl) rfl ?_
  intro p e s m args below meth cd ls A H locs hx hb hr hml hown hts hlocks hP hK hD hA hS hl hin
  have hS0 := hS
  have hl : lv_has ls 4 [(0, .ref (E 0))] := hl
  have hf39 : (Cond.fieldLink RX1 39 "StakeWeirs$Estuary" "weirCount" "I").before args s = true := hts _ (by decide +kernel)
  have hinX1 : ∀ w ∈ wsX10, w ∈ wsX1_catchEels := by decide +kernel
  refine lv_aload_n hx hb dX1_catchEels_0 rfl (lv_at hl 0 rfl) ?_
  refine zcRV (As := []) (rest := []) (st1 := [.int ((runI t n))]) ⟨hx, hb, hml, hown, hts⟩ (c_X1_run l D y E t o q b c bc n ar fi re  (by omega)) (cwV 0 hts gX1_catchEels_X1_run rfl rfl rfl (by decide +kernel) ⟨Nat.le_of_ble_eq_true rfl, Nat.le_of_ble_eq_true rfl⟩) hK hP (ci := 1) (q0 := 0) rfl rfl rfl rfl hl.1 rfl (lv_room (Nat.le_of_ble_eq_true rfl)) dX1_catchEels_1 ⟨Nat.le_of_ble_eq_true rfl, Nat.le_of_ble_eq_true rfl⟩ rfl ?_
  refine lv_istore_n (lv' := [(1, .int ((runI t n))), (0, .ref (E 0))]) hx hb dX1_catchEels_4 rfl hl (by decide) rfl (fun ls hl => ?_)
  refine lv_iconst (v := 0) hx hb dX1_catchEels_5 (by decide) ?_
  refine lv_istore_n (lv' := [(2, .int 0), (1, .int ((runI t n))), (0, .ref (E 0))]) hx hb dX1_catchEels_6 rfl hl (by decide) rfl (fun ls hl => ?_)
  have loop1 : ∀ k, k ≤ c → ∀ (H : Heap) (locs : List Loc) (ls : Array Slot), va_P D vwCl (eW E y t o ((catchP o q k (runI t n)).1) b c bc n ar fi re) H → va_D A (eW E y t o ((catchP o q k (runI t n)).1) b c bc n ar fi re) → va_S A s.heap H locs → lv_has ls 4 [(2, .int (nI k)), (1, .int ((catchP o q k (runI t n)).2)), (0, .ref (E 0))] → W p l e ({ frames := 3, cells := 0, slots := 0, locals := 65 } : Room) s m args below meth cd H locs 0 0 (MQ below (zMQ (none) D (eW E y t o (catchE o q c (runI t n)) b c bc n ar fi re) A) args s 0 0 A) (F0 m 7 ls []) := by
    refine down ?_ ?_
    · intro H locs ls hP hD hS hl
      refine lv_iload_n hx hb dX1_catchEels_7 rfl (lv_at hl 0 rfl) ?_
      refine lv_aload_n hx hb dX1_catchEels_8 rfl (lv_at hl 2 rfl) ?_
      refine va_get (D := D) (ci := 1) (v := .int (nI c)) (C := RX1) (T := TX1) (N := 10) hx hb hts hinX1 hown hK hP (0) rfl rfl 4 (by decide) hf39 (fun _ h9 => h9) rfl dX1_catchEels_9 ?_
      refine lv_icmp_ge (tgt := 50) hx hb dX1_catchEels_12 (by decide) (fun c2 => ?_) (fun c2 => ?_)
      · have d2 := Int32.not_lt.mpr c2
        exact zM_v hx hb hr hlocks hS dX1_catchEels_50 rfl hP
      · exact absurd (nI_le (a := c) (b := c) (by omega) (by omega)) c2
    · intro k hkk ihk H locs ls hP hD hS hl
      have hok := ho k hkk
      refine lv_iload_n hx hb dX1_catchEels_7 rfl (lv_at hl 0 rfl) ?_
      refine lv_aload_n hx hb dX1_catchEels_8 rfl (lv_at hl 2 rfl) ?_
      refine va_get (D := D) (ci := 1) (v := .int (nI c)) (C := RX1) (T := TX1) (N := 10) hx hb hts hinX1 hown hK hP (0) rfl rfl 4 (by decide) hf39 (fun _ h9 => h9) rfl dX1_catchEels_9 ?_
      refine lv_icmp_ge (tgt := 50) hx hb dX1_catchEels_12 (by decide) (fun c3 => ?_) (fun c3 => ?_)
      · exact absurd c3 (nI_ge (a := k) (b := c) (by omega) (by omega))
      · have d3 := Int32.not_le.mp c3
        refine lv_aload_n hx hb dX1_catchEels_15 rfl (lv_at hl 2 rfl) ?_
        refine lv_aload_n hx hb dX1_catchEels_16 rfl (lv_at hl 2 rfl) ?_
        refine lv_iload_n hx hb dX1_catchEels_17 rfl (lv_at hl 0 rfl) ?_
        refine zcRV (As := [.int (nI k)]) (rest := [.ref (E 0)]) (st1 := [.int (nI (o k)), .ref (E 0)]) ⟨hx, hb, hml, hown, hts⟩ (c_X1_inOrder l D y E t o ((catchP o q k (runI t n)).1) b c bc n ar fi re k (by omega)) (cwV 1 hts gX1_catchEels_X1_inOrder rfl rfl rfl (by decide +kernel) ⟨Nat.le_of_ble_eq_true rfl, Nat.le_of_ble_eq_true rfl⟩) hK hP (ci := 1) (q0 := 0) rfl rfl rfl rfl hl.1 rfl (lv_room (Nat.le_of_ble_eq_true rfl)) dX1_catchEels_18 ⟨Nat.le_of_ble_eq_true rfl, Nat.le_of_ble_eq_true rfl⟩ rfl ?_
        refine zcRV (As := [.int (nI (o k))]) (rest := []) (st1 := [.ref (E (5 + (o k)))]) ⟨hx, hb, hml, hown, hts⟩ (c_X1_weirAt l D y E t o ((catchP o q k (runI t n)).1) b c bc n ar fi re (o k) (by omega) (by omega)) (cwV 1 hts gX1_catchEels_X1_weirAt rfl rfl rfl (by decide +kernel) ⟨Nat.le_of_ble_eq_true rfl, Nat.le_of_ble_eq_true rfl⟩) hK hP (ci := 1) (q0 := 0) rfl rfl rfl rfl hl.1 rfl (lv_room (Nat.le_of_ble_eq_true rfl)) dX1_catchEels_21 ⟨Nat.le_of_ble_eq_true rfl, Nat.le_of_ble_eq_true rfl⟩ rfl ?_
        refine lv_astore_n (lv' := [(3, .ref (E (5 + (o k)))), (2, .int (nI k)), (1, .int ((catchP o q k (runI t n)).2)), (0, .ref (E 0))]) hx hb dX1_catchEels_24 rfl hl (by decide) rfl (fun ls hl => ?_)
        refine lv_aload_n hx hb dX1_catchEels_25 rfl (lv_at hl 0 rfl) ?_
        refine lv_ifnull hx hb dX1_catchEels_26 ?_
        refine lv_aload_n hx hb dX1_catchEels_29 rfl (lv_at hl 0 rfl) ?_
        refine zcRV (As := []) (rest := []) (st1 := [.int (zb (fishB ((catchP o q k (runI t n)).1) (o k)))]) ⟨hx, hb, hml, hown, hts⟩ (c_X2_isFishing l D y (E (5 + (o k))) ((catchP o q k (runI t n)).1) (o k)) (cwV 0 hts gX1_catchEels_X2_isFishing rfl rfl rfl (by decide +kernel) ⟨Nat.le_of_ble_eq_true rfl, Nat.le_of_ble_eq_true rfl⟩) hK (z_sub_P hP (z_in_1 (k := 5 + (o k)) (eW_w (by omega)))) (ci := 2) (q0 := 0) rfl rfl rfl rfl hl.1 rfl (lv_room (Nat.le_of_ble_eq_true rfl)) dX1_catchEels_30 ⟨Nat.le_of_ble_eq_true rfl, Nat.le_of_ble_eq_true rfl⟩ rfl ?_
        refine lv_if_eq (tgt := 44) hx hb dX1_catchEels_33 (by decide) (fun c4 => ?_) (fun c4 => ?_)
        · have c4 : fishB ((catchP o q k (runI t n)).1) (o k) = false := zb_f c4
          refine lv_iinc (v := nI (k + 1)) (lv' := [(2, .int (nI (k + 1))), (3, .ref (E (5 + (o k)))), (1, .int ((catchP o q k (runI t n)).2)), (0, .ref (E 0))]) hx hb dX1_catchEels_44 hl (k := 1) rfl (nI_1 _) (by decide) rfl (fun ls hl => ?_)
          refine lv_goto (tgt := 7) hx hb dX1_catchEels_47 (by decide) ?_
          have e5 : (catchP o q (k + 1) (runI t n)).2 = (catchP o q k (runI t n)).2 := by simp [catchP_s, catchS, c4]
          have e6 : (catchP o q (k + 1) (runI t n)).1 = (catchP o q k (runI t n)).1 := by simp [catchP_s, catchS, c4]
          refine ihk H locs ls ?_ ?_ hS ?_
          · first | exact hP | (simp only [e5, e6]; exact hP)
          · first | exact hD | (simp only [e5, e6]; exact hD)
          · first | exact lv_sub hl [0, 2, 3] rfl | (simp only [e5, e6]; exact lv_sub hl [0, 2, 3] rfl)
        · have c4 : fishB ((catchP o q k (runI t n)).1) (o k) = true := zb_t c4
          refine lv_iload_n hx hb dX1_catchEels_36 rfl (lv_at hl 2 rfl) ?_
          refine lv_aload_n hx hb dX1_catchEels_37 rfl (lv_at hl 0 rfl) ?_
          refine lv_iload_n hx hb dX1_catchEels_38 rfl (lv_at hl 2 rfl) ?_
          refine zcMV (As := [.int ((catchP o q k (runI t n)).2)]) (rest := [.int ((catchP o q k (runI t n)).2)]) (st1 := [.int ((caughtI ((catchP o q k (runI t n)).1) (o k) ((catchP o q k (runI t n)).2))), .int ((catchP o q k (runI t n)).2)]) (cells1 := 0) (slots1 := 0) ⟨hx, hb, hml, hown, hts⟩ (c_X2_catchOf l D y (E (5 + (o k))) ((catchP o q k (runI t n)).1) (o k) ((catchP o q k (runI t n)).2) _) (cwV 1 hts gX1_catchEels_X2_catchOf rfl rfl rfl (by decide +kernel) ⟨Nat.le_of_ble_eq_true rfl, Nat.le_of_ble_eq_true rfl⟩) hK (z_sub_P hP (z_in_1 (k := 5 + (o k)) (eW_w (by omega)))) z_D_1 (ci := 2) (q0 := 0) rfl rfl rfl rfl hl.1 rfl (lv_room (Nat.le_of_ble_eq_true rfl)) dX1_catchEels_39 hS (z_sub_F hD hS hA (z_in_1 (k := 5 + (o k)) (eW_w (by omega)))) ⟨Nat.le_of_ble_eq_true rfl, Nat.le_of_ble_eq_true rfl⟩ rfl rfl rfl (fun H locs hP1 hz hfr hS => ?_)
          obtain ⟨hP, hD⟩ := z_one hP hD (k := 5 + (o k)) (eW_w (by omega)) (eW_setw (by omega) (fun j i h => catchW_k _ _ _ _ _ h)) hP1 hfr
          have hP : va_P D vwCl (eW E y t o (catchW ((catchP o q k (runI t n)).1) (o k) ((catchP o q k (runI t n)).2)) b c bc n ar fi re) H := hP
          have hD : va_D A (eW E y t o (catchW ((catchP o q k (runI t n)).1) (o k) ((catchP o q k (runI t n)).2)) b c bc n ar fi re) := hD
          refine lv_isub hx hb dX1_catchEels_42 ?_
          refine lv_istore_n (lv' := [(1, .int (((catchP o q k (runI t n)).2 - (caughtI ((catchP o q k (runI t n)).1) (o k) ((catchP o q k (runI t n)).2))))), (3, .ref (E (5 + (o k)))), (2, .int (nI k)), (0, .ref (E 0))]) hx hb dX1_catchEels_43 rfl hl (by decide) rfl (fun ls hl => ?_)
          refine lv_iinc (v := nI (k + 1)) (lv' := [(2, .int (nI (k + 1))), (1, .int (((catchP o q k (runI t n)).2 - (caughtI ((catchP o q k (runI t n)).1) (o k) ((catchP o q k (runI t n)).2))))), (3, .ref (E (5 + (o k)))), (0, .ref (E 0))]) hx hb dX1_catchEels_44 hl (k := 2) rfl (nI_1 _) (by decide) rfl (fun ls hl => ?_)
          refine lv_goto (tgt := 7) hx hb dX1_catchEels_47 (by decide) ?_
          have e7 : (catchP o q (k + 1) (runI t n)).2 = ((catchP o q k (runI t n)).2 - (caughtI ((catchP o q k (runI t n)).1) (o k) ((catchP o q k (runI t n)).2))) := by simp [catchP_s, catchS, c4]
          have e8 : (catchP o q (k + 1) (runI t n)).1 = (catchW ((catchP o q k (runI t n)).1) (o k) ((catchP o q k (runI t n)).2)) := by simp [catchP_s, catchS, c4]
          refine ihk H locs ls ?_ ?_ hS ?_
          · first | exact hP | (simp only [e7, e8]; exact hP)
          · first | exact hD | (simp only [e7, e8]; exact hD)
          · first | exact lv_sub hl [0, 1, 3] rfl | (simp only [e7, e8]; exact lv_sub hl [0, 1, 3] rfl)
  exact loop1 0 (Nat.zero_le _) H locs ls hP hD hS (lv_sub hl [0, 1, 2] rfl)
set_option maxHeartbeats 4000000 in
set_option maxRecDepth 100000 in
theorem c_X1_rotWattle (l : Launch) (D : va_G) (y : Nat → ClassId) (E : Nat → Nat) (t : Nat → Int32) (o : Nat → Nat) (q b : Fld) (c bc n : Nat) (ar fi re : Int32) (hc : c ≤ 6) (hn : n < 2147483648) (sz : Nat) : zM l yX1_rotWattle wsX1_rotWattle { frames := 2, cells := 0, slots := 0, locals := 43 } D y [.ref (E 0)] (eW E y t o q b c bc n ar fi re) sz (none) (eW E y t o (rotE q c n) b c bc n ar fi re) 0 0 := by
  refine zM.ofH (cc := cX1_rotWattle) (maxL := 4) (ret := none) (own := RX1) (by decide) rfl (Nat.le_of_ble_eq_true rfl) rfl ?_
  intro p e s m args below meth cd ls A H locs hx hb hr hml hown hts hlocks hP hK hD hA hS hl hin
  have hS0 := hS
  have hl : lv_has ls 4 [(0, .ref (E 0))] := hl
  have hf39 : (Cond.fieldLink RX1 39 "StakeWeirs$Estuary" "weirCount" "I").before args s = true := hts _ (by decide +kernel)
  have hinX1 : ∀ w ∈ wsX10, w ∈ wsX1_rotWattle := by decide +kernel
  refine lv_aload_n hx hb dX1_rotWattle_0 rfl (lv_at hl 0 rfl) ?_
  refine zcRV (As := []) (rest := []) (st1 := [.int ((moonI n))]) ⟨hx, hb, hml, hown, hts⟩ (c_X1_moon l D y E t o q b c bc n ar fi re  (by omega)) (cwV 0 hts gX1_rotWattle_X1_moon rfl rfl rfl (by decide +kernel) ⟨Nat.le_of_ble_eq_true rfl, Nat.le_of_ble_eq_true rfl⟩) hK hP (ci := 1) (q0 := 0) rfl rfl rfl rfl hl.1 rfl (lv_room (Nat.le_of_ble_eq_true rfl)) dX1_rotWattle_1 ⟨Nat.le_of_ble_eq_true rfl, Nat.le_of_ble_eq_true rfl⟩ rfl ?_
  refine lv_iconst (v := 1) hx hb dX1_rotWattle_4 (by decide) ?_
  refine lv_icmp_ne (tgt := 12) hx hb dX1_rotWattle_5 (by decide) (fun c1 => ?_) (fun c1 => ?_)
  · have d1 := c1
    refine lv_iconst (v := 3) hx hb dX1_rotWattle_12 (by decide) ?_
    refine lv_istore_n (lv' := [(1, .int 3), (0, .ref (E 0))]) hx hb dX1_rotWattle_13 rfl hl (by decide) rfl (fun ls hl => ?_)
    refine lv_iconst (v := 0) hx hb dX1_rotWattle_14 (by decide) ?_
    refine lv_istore_n (lv' := [(2, .int 0), (1, .int 3), (0, .ref (E 0))]) hx hb dX1_rotWattle_15 rfl hl (by decide) rfl (fun ls hl => ?_)
    have loop2 : ∀ k, k ≤ c → ∀ (H : Heap) (locs : List Loc) (ls : Array Slot), va_P D vwCl (eW E y t o (rotE q k n) b c bc n ar fi re) H → va_D A (eW E y t o (rotE q k n) b c bc n ar fi re) → va_S A s.heap H locs → lv_has ls 4 [(2, .int (nI k)), (1, .int 3), (0, .ref (E 0))] → W p l e ({ frames := 2, cells := 0, slots := 0, locals := 43 } : Room) s m args below meth cd H locs 0 0 (MQ below (zMQ (none) D (eW E y t o (rotE q c n) b c bc n ar fi re) A) args s 0 0 A) (F0 m 16 ls []) := by
      refine down ?_ ?_
      · intro H locs ls hP hD hS hl
        refine lv_iload_n hx hb dX1_rotWattle_16 rfl (lv_at hl 0 rfl) ?_
        refine lv_aload_n hx hb dX1_rotWattle_17 rfl (lv_at hl 2 rfl) ?_
        refine va_get (D := D) (ci := 1) (v := .int (nI c)) (C := RX1) (T := TX1) (N := 10) hx hb hts hinX1 hown hK hP (0) rfl rfl 4 (by decide) hf39 (fun _ h9 => h9) rfl dX1_rotWattle_18 ?_
        refine lv_icmp_ge (tgt := 52) hx hb dX1_rotWattle_21 (by decide) (fun c3 => ?_) (fun c3 => ?_)
        · have d3 := Int32.not_lt.mpr c3
          exact zM_v hx hb hr hlocks hS dX1_rotWattle_52 rfl hP
        · exact absurd (nI_le (a := c) (b := c) (by omega) (by omega)) c3
      · intro k hkk ihk H locs ls hP hD hS hl
        refine lv_iload_n hx hb dX1_rotWattle_16 rfl (lv_at hl 0 rfl) ?_
        refine lv_aload_n hx hb dX1_rotWattle_17 rfl (lv_at hl 2 rfl) ?_
        refine va_get (D := D) (ci := 1) (v := .int (nI c)) (C := RX1) (T := TX1) (N := 10) hx hb hts hinX1 hown hK hP (0) rfl rfl 4 (by decide) hf39 (fun _ h9 => h9) rfl dX1_rotWattle_18 ?_
        refine lv_icmp_ge (tgt := 52) hx hb dX1_rotWattle_21 (by decide) (fun c4 => ?_) (fun c4 => ?_)
        · exact absurd c4 (nI_ge (a := k) (b := c) (by omega) (by omega))
        · have d4 := Int32.not_le.mp c4
          refine lv_aload_n hx hb dX1_rotWattle_24 rfl (lv_at hl 2 rfl) ?_
          refine lv_iload_n hx hb dX1_rotWattle_25 rfl (lv_at hl 0 rfl) ?_
          refine zcRV (As := [.int (nI k)]) (rest := []) (st1 := [.ref (E (5 + k))]) ⟨hx, hb, hml, hown, hts⟩ (c_X1_weirAt l D y E t o (rotE q k n) b c bc n ar fi re k (by omega) (by omega)) (cwV 1 hts gX1_rotWattle_X1_weirAt rfl rfl rfl (by decide +kernel) ⟨Nat.le_of_ble_eq_true rfl, Nat.le_of_ble_eq_true rfl⟩) hK hP (ci := 1) (q0 := 0) rfl rfl rfl rfl hl.1 rfl (lv_room (Nat.le_of_ble_eq_true rfl)) dX1_rotWattle_26 ⟨Nat.le_of_ble_eq_true rfl, Nat.le_of_ble_eq_true rfl⟩ rfl ?_
          refine lv_astore_n (lv' := [(3, .ref (E (5 + k))), (2, .int (nI k)), (1, .int 3), (0, .ref (E 0))]) hx hb dX1_rotWattle_29 rfl hl (by decide) rfl (fun ls hl => ?_)
          refine lv_aload_n hx hb dX1_rotWattle_30 rfl (lv_at hl 0 rfl) ?_
          refine lv_ifnull hx hb dX1_rotWattle_31 ?_
          refine lv_aload_n hx hb dX1_rotWattle_34 rfl (lv_at hl 0 rfl) ?_
          refine zcRV (As := []) (rest := []) (st1 := [.int (zb (heldB (rotE q k n) k))]) ⟨hx, hb, hml, hown, hts⟩ (c_X2_isHeld l D y (E (5 + k)) (rotE q k n) k) (cwV 0 hts gX1_rotWattle_X2_isHeld rfl rfl rfl (by decide +kernel) ⟨Nat.le_of_ble_eq_true rfl, Nat.le_of_ble_eq_true rfl⟩) hK (z_sub_P hP (z_in_1 (k := 5 + k) (eW_w (by omega)))) (ci := 2) (q0 := 0) rfl rfl rfl rfl hl.1 rfl (lv_room (Nat.le_of_ble_eq_true rfl)) dX1_rotWattle_35 ⟨Nat.le_of_ble_eq_true rfl, Nat.le_of_ble_eq_true rfl⟩ rfl ?_
          refine lv_if_eq (tgt := 46) hx hb dX1_rotWattle_38 (by decide) (fun c5 => ?_) (fun c5 => ?_)
          · have c5 : heldB (rotE q k n) k = false := zb_f c5
            refine lv_iinc (v := nI (k + 1)) (lv' := [(2, .int (nI (k + 1))), (3, .ref (E (5 + k))), (1, .int 3), (0, .ref (E 0))]) hx hb dX1_rotWattle_46 hl (k := 1) rfl (nI_1 _) (by decide) rfl (fun ls hl => ?_)
            refine lv_goto (tgt := 16) hx hb dX1_rotWattle_49 (by decide) ?_
            have e6 : (rotE q (k + 1) n) = (rotE q k n) := by simp [rotE_s, rotI, c1, d1, c5]
            refine ihk H locs ls ?_ ?_ hS ?_
            · first | exact hP | (simp only [e6]; exact hP)
            · first | exact hD | (simp only [e6]; exact hD)
            · first | exact lv_sub hl [0, 2, 3] rfl | (simp only [e6]; exact lv_sub hl [0, 2, 3] rfl)
          · have c5 : heldB (rotE q k n) k = true := zb_t c5
            refine lv_aload_n hx hb dX1_rotWattle_41 rfl (lv_at hl 0 rfl) ?_
            refine lv_iload_n hx hb dX1_rotWattle_42 rfl (lv_at hl 2 rfl) ?_
            refine zcMV (As := [.int 3]) (rest := []) (st1 := []) (cells1 := 0) (slots1 := 0) ⟨hx, hb, hml, hown, hts⟩ (c_X2_loseWattle l D y (E (5 + k)) (rotE q k n) k 3 _) (cwV 1 hts gX1_rotWattle_X2_loseWattle rfl rfl rfl (by decide +kernel) ⟨Nat.le_of_ble_eq_true rfl, Nat.le_of_ble_eq_true rfl⟩) hK (z_sub_P hP (z_in_1 (k := 5 + k) (eW_w (by omega)))) z_D_1 (ci := 2) (q0 := 0) rfl rfl rfl rfl hl.1 rfl (lv_room (Nat.le_of_ble_eq_true rfl)) dX1_rotWattle_43 hS (z_sub_F hD hS hA (z_in_1 (k := 5 + k) (eW_w (by omega)))) ⟨Nat.le_of_ble_eq_true rfl, Nat.le_of_ble_eq_true rfl⟩ rfl rfl rfl (fun H locs hP1 hz hfr hS => ?_)
            obtain ⟨hP, hD⟩ := z_one hP hD (k := 5 + k) (eW_w (by omega)) (eW_setw (by omega) (fun j i h => loseW_k _ _ _ _ _ h)) hP1 hfr
            have hP : va_P D vwCl (eW E y t o (loseW (rotE q k n) k 3) b c bc n ar fi re) H := hP
            have hD : va_D A (eW E y t o (loseW (rotE q k n) k 3) b c bc n ar fi re) := hD
            refine lv_iinc (v := nI (k + 1)) (lv' := [(2, .int (nI (k + 1))), (3, .ref (E (5 + k))), (1, .int 3), (0, .ref (E 0))]) hx hb dX1_rotWattle_46 hl (k := 1) rfl (nI_1 _) (by decide) rfl (fun ls hl => ?_)
            refine lv_goto (tgt := 16) hx hb dX1_rotWattle_49 (by decide) ?_
            have e7 : (rotE q (k + 1) n) = (loseW (rotE q k n) k 3) := by simp [rotE_s, rotI, c1, d1, c5]
            refine ihk H locs ls ?_ ?_ hS ?_
            · first | exact hP | (simp only [e7]; exact hP)
            · first | exact hD | (simp only [e7]; exact hD)
            · first | exact lv_sub hl [0, 2, 3] rfl | (simp only [e7]; exact lv_sub hl [0, 2, 3] rfl)
    exact loop2 0 (Nat.zero_le _) H locs ls hP hD hS (lv_sub hl [0, 1, 2] rfl)
  · have d1 := c1
    refine lv_iconst (v := 1) hx hb dX1_rotWattle_8 (by decide) ?_
    refine lv_goto (tgt := 13) hx hb dX1_rotWattle_9 (by decide) ?_
    refine lv_istore_n (lv' := [(1, .int 1), (0, .ref (E 0))]) hx hb dX1_rotWattle_13 rfl hl (by decide) rfl (fun ls hl => ?_)
    refine lv_iconst (v := 0) hx hb dX1_rotWattle_14 (by decide) ?_
    refine lv_istore_n (lv' := [(2, .int 0), (1, .int 1), (0, .ref (E 0))]) hx hb dX1_rotWattle_15 rfl hl (by decide) rfl (fun ls hl => ?_)
    have loop8 : ∀ k, k ≤ c → ∀ (H : Heap) (locs : List Loc) (ls : Array Slot), va_P D vwCl (eW E y t o (rotE q k n) b c bc n ar fi re) H → va_D A (eW E y t o (rotE q k n) b c bc n ar fi re) → va_S A s.heap H locs → lv_has ls 4 [(2, .int (nI k)), (1, .int 1), (0, .ref (E 0))] → W p l e ({ frames := 2, cells := 0, slots := 0, locals := 43 } : Room) s m args below meth cd H locs 0 0 (MQ below (zMQ (none) D (eW E y t o (rotE q c n) b c bc n ar fi re) A) args s 0 0 A) (F0 m 16 ls []) := by
      refine down ?_ ?_
      · intro H locs ls hP hD hS hl
        refine lv_iload_n hx hb dX1_rotWattle_16 rfl (lv_at hl 0 rfl) ?_
        refine lv_aload_n hx hb dX1_rotWattle_17 rfl (lv_at hl 2 rfl) ?_
        refine va_get (D := D) (ci := 1) (v := .int (nI c)) (C := RX1) (T := TX1) (N := 10) hx hb hts hinX1 hown hK hP (0) rfl rfl 4 (by decide) hf39 (fun _ h9 => h9) rfl dX1_rotWattle_18 ?_
        refine lv_icmp_ge (tgt := 52) hx hb dX1_rotWattle_21 (by decide) (fun c9 => ?_) (fun c9 => ?_)
        · have d9 := Int32.not_lt.mpr c9
          exact zM_v hx hb hr hlocks hS dX1_rotWattle_52 rfl hP
        · exact absurd (nI_le (a := c) (b := c) (by omega) (by omega)) c9
      · intro k hkk ihk H locs ls hP hD hS hl
        refine lv_iload_n hx hb dX1_rotWattle_16 rfl (lv_at hl 0 rfl) ?_
        refine lv_aload_n hx hb dX1_rotWattle_17 rfl (lv_at hl 2 rfl) ?_
        refine va_get (D := D) (ci := 1) (v := .int (nI c)) (C := RX1) (T := TX1) (N := 10) hx hb hts hinX1 hown hK hP (0) rfl rfl 4 (by decide) hf39 (fun _ h9 => h9) rfl dX1_rotWattle_18 ?_
        refine lv_icmp_ge (tgt := 52) hx hb dX1_rotWattle_21 (by decide) (fun c10 => ?_) (fun c10 => ?_)
        · exact absurd c10 (nI_ge (a := k) (b := c) (by omega) (by omega))
        · have d10 := Int32.not_le.mp c10
          refine lv_aload_n hx hb dX1_rotWattle_24 rfl (lv_at hl 2 rfl) ?_
          refine lv_iload_n hx hb dX1_rotWattle_25 rfl (lv_at hl 0 rfl) ?_
          refine zcRV (As := [.int (nI k)]) (rest := []) (st1 := [.ref (E (5 + k))]) ⟨hx, hb, hml, hown, hts⟩ (c_X1_weirAt l D y E t o (rotE q k n) b c bc n ar fi re k (by omega) (by omega)) (cwV 1 hts gX1_rotWattle_X1_weirAt rfl rfl rfl (by decide +kernel) ⟨Nat.le_of_ble_eq_true rfl, Nat.le_of_ble_eq_true rfl⟩) hK hP (ci := 1) (q0 := 0) rfl rfl rfl rfl hl.1 rfl (lv_room (Nat.le_of_ble_eq_true rfl)) dX1_rotWattle_26 ⟨Nat.le_of_ble_eq_true rfl, Nat.le_of_ble_eq_true rfl⟩ rfl ?_
          refine lv_astore_n (lv' := [(3, .ref (E (5 + k))), (2, .int (nI k)), (1, .int 1), (0, .ref (E 0))]) hx hb dX1_rotWattle_29 rfl hl (by decide) rfl (fun ls hl => ?_)
          refine lv_aload_n hx hb dX1_rotWattle_30 rfl (lv_at hl 0 rfl) ?_
          refine lv_ifnull hx hb dX1_rotWattle_31 ?_
          refine lv_aload_n hx hb dX1_rotWattle_34 rfl (lv_at hl 0 rfl) ?_
          refine zcRV (As := []) (rest := []) (st1 := [.int (zb (heldB (rotE q k n) k))]) ⟨hx, hb, hml, hown, hts⟩ (c_X2_isHeld l D y (E (5 + k)) (rotE q k n) k) (cwV 0 hts gX1_rotWattle_X2_isHeld rfl rfl rfl (by decide +kernel) ⟨Nat.le_of_ble_eq_true rfl, Nat.le_of_ble_eq_true rfl⟩) hK (z_sub_P hP (z_in_1 (k := 5 + k) (eW_w (by omega)))) (ci := 2) (q0 := 0) rfl rfl rfl rfl hl.1 rfl (lv_room (Nat.le_of_ble_eq_true rfl)) dX1_rotWattle_35 ⟨Nat.le_of_ble_eq_true rfl, Nat.le_of_ble_eq_true rfl⟩ rfl ?_
          refine lv_if_eq (tgt := 46) hx hb dX1_rotWattle_38 (by decide) (fun c11 => ?_) (fun c11 => ?_)
          · have c11 : heldB (rotE q k n) k = false := zb_f c11
            refine lv_iinc (v := nI (k + 1)) (lv' := [(2, .int (nI (k + 1))), (3, .ref (E (5 + k))), (1, .int 1), (0, .ref (E 0))]) hx hb dX1_rotWattle_46 hl (k := 1) rfl (nI_1 _) (by decide) rfl (fun ls hl => ?_)
            refine lv_goto (tgt := 16) hx hb dX1_rotWattle_49 (by decide) ?_
            have e12 : (rotE q (k + 1) n) = (rotE q k n) := by simp [rotE_s, rotI, c1, d1, c11]
            refine ihk H locs ls ?_ ?_ hS ?_
            · first | exact hP | (simp only [e12]; exact hP)
            · first | exact hD | (simp only [e12]; exact hD)
            · first | exact lv_sub hl [0, 2, 3] rfl | (simp only [e12]; exact lv_sub hl [0, 2, 3] rfl)
          · have c11 : heldB (rotE q k n) k = true := zb_t c11
            refine lv_aload_n hx hb dX1_rotWattle_41 rfl (lv_at hl 0 rfl) ?_
            refine lv_iload_n hx hb dX1_rotWattle_42 rfl (lv_at hl 2 rfl) ?_
            refine zcMV (As := [.int 1]) (rest := []) (st1 := []) (cells1 := 0) (slots1 := 0) ⟨hx, hb, hml, hown, hts⟩ (c_X2_loseWattle l D y (E (5 + k)) (rotE q k n) k 1 _) (cwV 1 hts gX1_rotWattle_X2_loseWattle rfl rfl rfl (by decide +kernel) ⟨Nat.le_of_ble_eq_true rfl, Nat.le_of_ble_eq_true rfl⟩) hK (z_sub_P hP (z_in_1 (k := 5 + k) (eW_w (by omega)))) z_D_1 (ci := 2) (q0 := 0) rfl rfl rfl rfl hl.1 rfl (lv_room (Nat.le_of_ble_eq_true rfl)) dX1_rotWattle_43 hS (z_sub_F hD hS hA (z_in_1 (k := 5 + k) (eW_w (by omega)))) ⟨Nat.le_of_ble_eq_true rfl, Nat.le_of_ble_eq_true rfl⟩ rfl rfl rfl (fun H locs hP1 hz hfr hS => ?_)
            obtain ⟨hP, hD⟩ := z_one hP hD (k := 5 + k) (eW_w (by omega)) (eW_setw (by omega) (fun j i h => loseW_k _ _ _ _ _ h)) hP1 hfr
            have hP : va_P D vwCl (eW E y t o (loseW (rotE q k n) k 1) b c bc n ar fi re) H := hP
            have hD : va_D A (eW E y t o (loseW (rotE q k n) k 1) b c bc n ar fi re) := hD
            refine lv_iinc (v := nI (k + 1)) (lv' := [(2, .int (nI (k + 1))), (3, .ref (E (5 + k))), (1, .int 1), (0, .ref (E 0))]) hx hb dX1_rotWattle_46 hl (k := 1) rfl (nI_1 _) (by decide) rfl (fun ls hl => ?_)
            refine lv_goto (tgt := 16) hx hb dX1_rotWattle_49 (by decide) ?_
            have e13 : (rotE q (k + 1) n) = (loseW (rotE q k n) k 1) := by simp [rotE_s, rotI, c1, d1, c11]
            refine ihk H locs ls ?_ ?_ hS ?_
            · first | exact hP | (simp only [e13]; exact hP)
            · first | exact hD | (simp only [e13]; exact hD)
            · first | exact lv_sub hl [0, 2, 3] rfl | (simp only [e13]; exact lv_sub hl [0, 2, 3] rfl)
    exact loop8 0 (Nat.zero_le _) H locs ls hP hD hS (lv_sub hl [0, 1, 2] rfl)
set_option maxHeartbeats 4000000 in
set_option maxRecDepth 100000 in
theorem c_X1_collectRents (l : Launch) (D : va_G) (y : Nat → ClassId) (E : Nat → Nat) (t : Nat → Int32) (o : Nat → Nat) (q b : Fld) (c bc n : Nat) (ar fi re : Int32) (hc : c ≤ 6) (sz : Nat) : zM l yX1_collectRents wsX1_collectRents { frames := 1, cells := 0, slots := 0, locals := 22 } D y [.ref (E 0)] (eW E y t o q b c bc n ar fi re) sz (none) (eW E y t o ((rentE q c re).1) b c bc n ar fi ((rentE q c re).2)) 0 0 := by
  refine zM.ofH (cc := cX1_collectRents) (maxL := 3) (ret := none) (own := RX1) (by decide) rfl (Nat.le_of_ble_eq_true rfl) rfl ?_
  intro p e s m args below meth cd ls A H locs hx hb hr hml hown hts hlocks hP hK hD hA hS hl hin
  have hS0 := hS
  have hl : lv_has ls 3 [(0, .ref (E 0))] := hl
  have hf39 : (Cond.fieldLink RX1 39 "StakeWeirs$Estuary" "weirCount" "I").before args s = true := hts _ (by decide +kernel)
  have hinX1 : ∀ w ∈ wsX10, w ∈ wsX1_collectRents := by decide +kernel
  have hf71 : (Cond.fieldLink RX1 71 "StakeWeirs$Estuary" "rents" "I").before args s = true := hts _ (by decide +kernel)
  refine lv_iconst (v := 0) hx hb dX1_collectRents_0 (by decide) ?_
  refine lv_istore_n (lv' := [(1, .int 0), (0, .ref (E 0))]) hx hb dX1_collectRents_1 rfl hl (by decide) rfl (fun ls hl => ?_)
  have loop1 : ∀ k, k ≤ c → ∀ (H : Heap) (locs : List Loc) (ls : Array Slot), va_P D vwCl (eW E y t o ((rentE q k re).1) b c bc n ar fi ((rentE q k re).2)) H → va_D A (eW E y t o ((rentE q k re).1) b c bc n ar fi ((rentE q k re).2)) → va_S A s.heap H locs → lv_has ls 3 [(1, .int (nI k)), (0, .ref (E 0))] → W p l e ({ frames := 1, cells := 0, slots := 0, locals := 22 } : Room) s m args below meth cd H locs 0 0 (MQ below (zMQ (none) D (eW E y t o ((rentE q c re).1) b c bc n ar fi ((rentE q c re).2)) A) args s 0 0 A) (F0 m 2 ls []) := by
    refine down ?_ ?_
    · intro H locs ls hP hD hS hl
      refine lv_iload_n hx hb dX1_collectRents_2 rfl (lv_at hl 0 rfl) ?_
      refine lv_aload_n hx hb dX1_collectRents_3 rfl (lv_at hl 1 rfl) ?_
      refine va_get (D := D) (ci := 1) (v := .int (nI c)) (C := RX1) (T := TX1) (N := 10) hx hb hts hinX1 hown hK hP (0) rfl rfl 4 (by decide) hf39 (fun _ h9 => h9) rfl dX1_collectRents_4 ?_
      refine lv_icmp_ge (tgt := 46) hx hb dX1_collectRents_7 (by decide) (fun c2 => ?_) (fun c2 => ?_)
      · have d2 := Int32.not_lt.mpr c2
        exact zM_v hx hb hr hlocks hS dX1_collectRents_46 rfl hP
      · exact absurd (nI_le (a := c) (b := c) (by omega) (by omega)) c2
    · intro k hkk ihk H locs ls hP hD hS hl
      refine lv_iload_n hx hb dX1_collectRents_2 rfl (lv_at hl 0 rfl) ?_
      refine lv_aload_n hx hb dX1_collectRents_3 rfl (lv_at hl 1 rfl) ?_
      refine va_get (D := D) (ci := 1) (v := .int (nI c)) (C := RX1) (T := TX1) (N := 10) hx hb hts hinX1 hown hK hP (0) rfl rfl 4 (by decide) hf39 (fun _ h9 => h9) rfl dX1_collectRents_4 ?_
      refine lv_icmp_ge (tgt := 46) hx hb dX1_collectRents_7 (by decide) (fun c3 => ?_) (fun c3 => ?_)
      · exact absurd c3 (nI_ge (a := k) (b := c) (by omega) (by omega))
      · have d3 := Int32.not_le.mp c3
        refine lv_aload_n hx hb dX1_collectRents_10 rfl (lv_at hl 1 rfl) ?_
        refine lv_iload_n hx hb dX1_collectRents_11 rfl (lv_at hl 0 rfl) ?_
        refine zcRV (As := [.int (nI k)]) (rest := []) (st1 := [.ref (E (5 + k))]) ⟨hx, hb, hml, hown, hts⟩ (c_X1_weirAt l D y E t o ((rentE q k re).1) b c bc n ar fi ((rentE q k re).2) k (by omega) (by omega)) (cwV 1 hts gX1_collectRents_X1_weirAt rfl rfl rfl (by decide +kernel) ⟨Nat.le_of_ble_eq_true rfl, Nat.le_of_ble_eq_true rfl⟩) hK hP (ci := 1) (q0 := 0) rfl rfl rfl rfl hl.1 rfl (lv_room (Nat.le_of_ble_eq_true rfl)) dX1_collectRents_12 ⟨Nat.le_of_ble_eq_true rfl, Nat.le_of_ble_eq_true rfl⟩ rfl ?_
        refine lv_astore_n (lv' := [(2, .ref (E (5 + k))), (1, .int (nI k)), (0, .ref (E 0))]) hx hb dX1_collectRents_15 rfl hl (by decide) rfl (fun ls hl => ?_)
        refine lv_aload_n hx hb dX1_collectRents_16 rfl (lv_at hl 0 rfl) ?_
        refine lv_ifnull hx hb dX1_collectRents_17 ?_
        refine lv_aload_n hx hb dX1_collectRents_20 rfl (lv_at hl 0 rfl) ?_
        refine zcRV (As := []) (rest := []) (st1 := [.int (zb (heldB ((rentE q k re).1) k))]) ⟨hx, hb, hml, hown, hts⟩ (c_X2_isHeld l D y (E (5 + k)) ((rentE q k re).1) k) (cwV 0 hts gX1_collectRents_X2_isHeld rfl rfl rfl (by decide +kernel) ⟨Nat.le_of_ble_eq_true rfl, Nat.le_of_ble_eq_true rfl⟩) hK (z_sub_P hP (z_in_1 (k := 5 + k) (eW_w (by omega)))) (ci := 2) (q0 := 0) rfl rfl rfl rfl hl.1 rfl (lv_room (Nat.le_of_ble_eq_true rfl)) dX1_collectRents_21 ⟨Nat.le_of_ble_eq_true rfl, Nat.le_of_ble_eq_true rfl⟩ rfl ?_
        refine lv_if_eq (tgt := 40) hx hb dX1_collectRents_24 (by decide) (fun c4 => ?_) (fun c4 => ?_)
        · have c4 : heldB ((rentE q k re).1) k = false := zb_f c4
          refine lv_iinc (v := nI (k + 1)) (lv' := [(1, .int (nI (k + 1))), (2, .ref (E (5 + k))), (0, .ref (E 0))]) hx hb dX1_collectRents_40 hl (k := 1) rfl (nI_1 _) (by decide) rfl (fun ls hl => ?_)
          refine lv_goto (tgt := 2) hx hb dX1_collectRents_43 (by decide) ?_
          have e5 : (rentE q (k + 1) re).1 = (rentE q k re).1 := by simp [rentE_s, rentS, c4]
          have e6 : (rentE q (k + 1) re).2 = (rentE q k re).2 := by simp [rentE_s, rentS, c4]
          refine ihk H locs ls ?_ ?_ hS ?_
          · first | exact hP | (simp only [e5, e6]; exact hP)
          · first | exact hD | (simp only [e5, e6]; exact hD)
          · first | exact lv_sub hl [0, 2] rfl | (simp only [e5, e6]; exact lv_sub hl [0, 2] rfl)
        · have c4 : heldB ((rentE q k re).1) k = true := zb_t c4
          refine lv_aload_n hx hb dX1_collectRents_27 rfl (lv_at hl 2 rfl) ?_
          refine lv_dup hx hb dX1_collectRents_28 rfl ?_
          refine va_get (D := D) (ci := 1) (v := .int ((rentE q k re).2)) (C := RX1) (T := TX1) (N := 10) hx hb hts hinX1 hown hK hP (0) rfl rfl 9 (by decide) hf71 (fun _ h9 => h9) rfl dX1_collectRents_29 ?_
          refine lv_aload_n hx hb dX1_collectRents_32 rfl (lv_at hl 0 rfl) ?_
          refine zcMV (As := []) (rest := [.int ((rentE q k re).2), .ref (E 0)]) (st1 := [.int ((paidI ((rentE q k re).1) k)), .int ((rentE q k re).2), .ref (E 0)]) (cells1 := 0) (slots1 := 0) ⟨hx, hb, hml, hown, hts⟩ (c_X2_payRent l D y (E (5 + k)) ((rentE q k re).1) k _) (cwV 0 hts gX1_collectRents_X2_payRent rfl rfl rfl (by decide +kernel) ⟨Nat.le_of_ble_eq_true rfl, Nat.le_of_ble_eq_true rfl⟩) hK (z_sub_P hP (z_in_1 (k := 5 + k) (eW_w (by omega)))) z_D_1 (ci := 2) (q0 := 0) rfl rfl rfl rfl hl.1 rfl (lv_room (Nat.le_of_ble_eq_true rfl)) dX1_collectRents_33 hS (z_sub_F hD hS hA (z_in_1 (k := 5 + k) (eW_w (by omega)))) ⟨Nat.le_of_ble_eq_true rfl, Nat.le_of_ble_eq_true rfl⟩ rfl rfl rfl (fun H locs hP1 hz hfr hS => ?_)
          obtain ⟨hP, hD⟩ := z_one hP hD (k := 5 + k) (eW_w (by omega)) (eW_setw (by omega) (fun j i h => payW_k _ _ _ _ h)) hP1 hfr
          have hP : va_P D vwCl (eW E y t o (payW ((rentE q k re).1) k) b c bc n ar fi ((rentE q k re).2)) H := hP
          have hD : va_D A (eW E y t o (payW ((rentE q k re).1) k) b c bc n ar fi ((rentE q k re).2)) := hD
          refine lv_iadd hx hb dX1_collectRents_36 ?_
          refine va_put (D := D) (ci := 1) (v := .int (((rentE q k re).2 + (paidI ((rentE q k re).1) k)))) (ty := .int) (C := RX1) (T := TX1) (N := 10) hx hb hts hinX1 tyX1 tyX1_ok nmX1 hown hK hP hD hS (0) rfl rfl 9 (by decide) hf71 (fun _ h9 => h9) rfl (by decide +kernel) rfl rfl (Nat.le_of_ble_eq_true rfl) dX1_collectRents_37 (fun H locs hP hD hS => ?_)
          have hP : va_P D vwCl (eW E y t o (payW ((rentE q k re).1) k) b c bc n ar fi ((rentE q k re).2 + (paidI ((rentE q k re).1) k))) H := hP
          have hD : va_D A (eW E y t o (payW ((rentE q k re).1) k) b c bc n ar fi ((rentE q k re).2 + (paidI ((rentE q k re).1) k))) := hD
          refine lv_iinc (v := nI (k + 1)) (lv' := [(1, .int (nI (k + 1))), (2, .ref (E (5 + k))), (0, .ref (E 0))]) hx hb dX1_collectRents_40 hl (k := 1) rfl (nI_1 _) (by decide) rfl (fun ls hl => ?_)
          refine lv_goto (tgt := 2) hx hb dX1_collectRents_43 (by decide) ?_
          have e7 : (rentE q (k + 1) re).1 = (payW ((rentE q k re).1) k) := by simp [rentE_s, rentS, c4]
          have e8 : (rentE q (k + 1) re).2 = ((rentE q k re).2 + (paidI ((rentE q k re).1) k)) := by simp [rentE_s, rentS, c4]
          refine ihk H locs ls ?_ ?_ hS ?_
          · first | exact hP | (simp only [e7, e8]; exact hP)
          · first | exact hD | (simp only [e7, e8]; exact hD)
          · first | exact lv_sub hl [0, 2] rfl | (simp only [e7, e8]; exact lv_sub hl [0, 2] rfl)
  exact loop1 0 (Nat.zero_le _) H locs ls hP hD hS (lv_sub hl [0, 1] rfl)
set_option maxHeartbeats 4000000 in
set_option maxRecDepth 100000 in
theorem c_X1_breakThrough (l : Launch) (D : va_G) (y : Nat → ClassId) (E : Nat → Nat) (t : Nat → Int32) (o : Nat → Nat) (q b : Fld) (c bc n : Nat) (ar fi re : Int32) (j : Nat) (hj : j < 5) (hc : c ≤ 6) (sz : Nat) : zM l yX1_breakThrough wsX1_breakThrough { frames := 2, cells := 0, slots := 0, locals := 43 } D y [.ref (E 0), .ref (E (11 + j))] (eW E y t o q b c bc n ar fi re) sz (none) (eW E y t o ((brkE q c (b 2 j) (b 1 j) fi (b 3 j)).1) (up2 b 3 j (brkE q c (b 2 j) (b 1 j) fi (b 3 j)).2.2) c bc n ar ((brkE q c (b 2 j) (b 1 j) fi (b 3 j)).2.1) re) 0 0 := by
  refine zM.ofH (cc := cX1_breakThrough) (maxL := 4) (ret := none) (own := RX1) (by decide) rfl (Nat.le_of_ble_eq_true rfl) rfl ?_
  intro p e s m args below meth cd ls A H locs hx hb hr hml hown hts hlocks hP hK hD hA hS hl hin
  have hS0 := hS
  have hl : lv_has ls 4 [(0, .ref (E 0)), (1, .ref (E (11 + j)))] := hl
  have hf39 : (Cond.fieldLink RX1 39 "StakeWeirs$Estuary" "weirCount" "I").before args s = true := hts _ (by decide +kernel)
  have hinX1 : ∀ w ∈ wsX10, w ∈ wsX1_breakThrough := by decide +kernel
  have hf93 : (Cond.fieldLink RX1 93 "StakeWeirs$Weir" "place" "I").before args s = true := hts _ (by decide +kernel)
  have hinX2 : ∀ w ∈ wsX20, w ∈ wsX1_breakThrough := by decide +kernel
  have hf123 : (Cond.fieldLink RX1 123 "StakeWeirs$Barge" "place" "I").before args s = true := hts _ (by decide +kernel)
  have hinX0 : ∀ w ∈ wsX00, w ∈ wsX1_breakThrough := by decide +kernel
  have hf120 : (Cond.fieldLink RX1 120 "StakeWeirs$Barge" "wide" "I").before args s = true := hts _ (by decide +kernel)
  have hf68 : (Cond.fieldLink RX1 68 "StakeWeirs$Estuary" "fines" "I").before args s = true := hts _ (by decide +kernel)
  have hf124 : (Cond.fieldLink RX1 124 "StakeWeirs$Barge" "broken" "I").before args s = true := hts _ (by decide +kernel)
  refine lv_iconst (v := 0) hx hb dX1_breakThrough_0 (by decide) ?_
  refine lv_istore_n (lv' := [(2, .int 0), (0, .ref (E 0)), (1, .ref (E (11 + j)))]) hx hb dX1_breakThrough_1 rfl hl (by decide) rfl (fun ls hl => ?_)
  have hP : va_P D vwCl (eW E y t o q (up2 b 3 j (b 3 j)) c bc n ar fi re) H := by rw [up2_id]; exact hP
  have hD : va_D A (eW E y t o q (up2 b 3 j (b 3 j)) c bc n ar fi re) := by rw [up2_id]; exact hD
  have loop1 : ∀ k, k ≤ c → ∀ (H : Heap) (locs : List Loc) (ls : Array Slot), va_P D vwCl (eW E y t o ((brkE q k (b 2 j) (b 1 j) fi (b 3 j)).1) (up2 b 3 j (brkE q k (b 2 j) (b 1 j) fi (b 3 j)).2.2) c bc n ar ((brkE q k (b 2 j) (b 1 j) fi (b 3 j)).2.1) re) H → va_D A (eW E y t o ((brkE q k (b 2 j) (b 1 j) fi (b 3 j)).1) (up2 b 3 j (brkE q k (b 2 j) (b 1 j) fi (b 3 j)).2.2) c bc n ar ((brkE q k (b 2 j) (b 1 j) fi (b 3 j)).2.1) re) → va_S A s.heap H locs → lv_has ls 4 [(2, .int (nI k)), (0, .ref (E 0)), (1, .ref (E (11 + j)))] → W p l e ({ frames := 2, cells := 0, slots := 0, locals := 43 } : Room) s m args below meth cd H locs 0 0 (MQ below (zMQ (none) D (eW E y t o ((brkE q c (b 2 j) (b 1 j) fi (b 3 j)).1) (up2 b 3 j (brkE q c (b 2 j) (b 1 j) fi (b 3 j)).2.2) c bc n ar ((brkE q c (b 2 j) (b 1 j) fi (b 3 j)).2.1) re) A) args s 0 0 A) (F0 m 2 ls []) := by
    refine down ?_ ?_
    · intro H locs ls hP hD hS hl
      refine lv_iload_n hx hb dX1_breakThrough_2 rfl (lv_at hl 0 rfl) ?_
      refine lv_aload_n hx hb dX1_breakThrough_3 rfl (lv_at hl 1 rfl) ?_
      refine va_get (D := D) (ci := 1) (v := .int (nI c)) (C := RX1) (T := TX1) (N := 10) hx hb hts hinX1 hown hK hP (0) rfl rfl 4 (by decide) hf39 (fun _ h9 => h9) rfl dX1_breakThrough_4 ?_
      refine lv_icmp_ge (tgt := 75) hx hb dX1_breakThrough_7 (by decide) (fun c2 => ?_) (fun c2 => ?_)
      · have d2 := Int32.not_lt.mpr c2
        exact zM_v hx hb hr hlocks hS dX1_breakThrough_75 rfl hP
      · exact absurd (nI_le (a := c) (b := c) (by omega) (by omega)) c2
    · intro k hkk ihk H locs ls hP hD hS hl
      refine lv_iload_n hx hb dX1_breakThrough_2 rfl (lv_at hl 0 rfl) ?_
      refine lv_aload_n hx hb dX1_breakThrough_3 rfl (lv_at hl 1 rfl) ?_
      refine va_get (D := D) (ci := 1) (v := .int (nI c)) (C := RX1) (T := TX1) (N := 10) hx hb hts hinX1 hown hK hP (0) rfl rfl 4 (by decide) hf39 (fun _ h9 => h9) rfl dX1_breakThrough_4 ?_
      refine lv_icmp_ge (tgt := 75) hx hb dX1_breakThrough_7 (by decide) (fun c3 => ?_) (fun c3 => ?_)
      · exact absurd c3 (nI_ge (a := k) (b := c) (by omega) (by omega))
      · have d3 := Int32.not_le.mp c3
        refine lv_aload_n hx hb dX1_breakThrough_10 rfl (lv_at hl 1 rfl) ?_
        refine lv_iload_n hx hb dX1_breakThrough_11 rfl (lv_at hl 0 rfl) ?_
        refine zcRV (As := [.int (nI k)]) (rest := []) (st1 := [.ref (E (5 + k))]) ⟨hx, hb, hml, hown, hts⟩ (c_X1_weirAt l D y E t o ((brkE q k (b 2 j) (b 1 j) fi (b 3 j)).1) (up2 b 3 j (brkE q k (b 2 j) (b 1 j) fi (b 3 j)).2.2) c bc n ar ((brkE q k (b 2 j) (b 1 j) fi (b 3 j)).2.1) re k (by omega) (by omega)) (cwV 1 hts gX1_breakThrough_X1_weirAt rfl rfl rfl (by decide +kernel) ⟨Nat.le_of_ble_eq_true rfl, Nat.le_of_ble_eq_true rfl⟩) hK hP (ci := 1) (q0 := 0) rfl rfl rfl rfl hl.1 rfl (lv_room (Nat.le_of_ble_eq_true rfl)) dX1_breakThrough_12 ⟨Nat.le_of_ble_eq_true rfl, Nat.le_of_ble_eq_true rfl⟩ rfl ?_
        refine lv_astore_n (lv' := [(3, .ref (E (5 + k))), (2, .int (nI k)), (0, .ref (E 0)), (1, .ref (E (11 + j)))]) hx hb dX1_breakThrough_15 rfl hl (by decide) rfl (fun ls hl => ?_)
        refine lv_aload_n hx hb dX1_breakThrough_16 rfl (lv_at hl 0 rfl) ?_
        refine lv_ifnull hx hb dX1_breakThrough_17 ?_
        refine lv_aload_n hx hb dX1_breakThrough_20 rfl (lv_at hl 0 rfl) ?_
        refine va_get (D := D) (ci := 2) (v := .int ((((brkE q k (b 2 j) (b 1 j) fi (b 3 j)).1) 0 k))) (C := RX2) (T := TX2) (N := 8) hx hb hts hinX2 hown hK hP (5 + k) (eW_w (by omega)) rfl 0 (by decide) hf93 (fun _ h9 => h9) rfl dX1_breakThrough_21 ?_
        refine lv_aload_n hx hb dX1_breakThrough_24 rfl (lv_at hl 3 rfl) ?_
        refine va_get (D := D) (ci := 0) (v := .int ((b 2 j))) (C := RX0) (T := TX0) (N := 4) hx hb hts hinX0 hown hK hP (11 + j) (eW_b (by omega)) rfl 2 (by decide) hf123 (fun _ h9 => h9) rfl dX1_breakThrough_25 ?_
        refine lv_icmp_ne (tgt := 69) hx hb dX1_breakThrough_28 (by decide) (fun c4 => ?_) (fun c4 => ?_)
        · have d4 := c4
          refine lv_iinc (v := nI (k + 1)) (lv' := [(2, .int (nI (k + 1))), (3, .ref (E (5 + k))), (0, .ref (E 0)), (1, .ref (E (11 + j)))]) hx hb dX1_breakThrough_69 hl (k := 1) rfl (nI_1 _) (by decide) rfl (fun ls hl => ?_)
          refine lv_goto (tgt := 2) hx hb dX1_breakThrough_72 (by decide) ?_
          have e5 : (brkE q (k + 1) (b 2 j) (b 1 j) fi (b 3 j)).1 = (brkE q k (b 2 j) (b 1 j) fi (b 3 j)).1 := by simp [brkE_s, brkS, c4, d4]
          have e6 : (brkE q (k + 1) (b 2 j) (b 1 j) fi (b 3 j)).2.1 = (brkE q k (b 2 j) (b 1 j) fi (b 3 j)).2.1 := by simp [brkE_s, brkS, c4, d4]
          have e7 : (up2 b 3 j (brkE q (k + 1) (b 2 j) (b 1 j) fi (b 3 j)).2.2) = (up2 b 3 j (brkE q k (b 2 j) (b 1 j) fi (b 3 j)).2.2) := by simp [brkE_s, brkS, c4, d4]
          refine ihk H locs ls ?_ ?_ hS ?_
          · first | exact hP | (simp only [e5, e6, e7]; exact hP)
          · first | exact hD | (simp only [e5, e6, e7]; exact hD)
          · first | exact lv_sub hl [0, 2, 3] rfl | (simp only [e5, e6, e7]; exact lv_sub hl [0, 2, 3] rfl)
        · have d4 := c4
          refine lv_aload_n hx hb dX1_breakThrough_31 rfl (lv_at hl 0 rfl) ?_
          refine lv_aload_n hx hb dX1_breakThrough_32 rfl (lv_at hl 3 rfl) ?_
          refine va_get (D := D) (ci := 0) (v := .int ((b 1 j))) (C := RX0) (T := TX0) (N := 4) hx hb hts hinX0 hown hK hP (11 + j) (eW_b (by omega)) rfl 1 (by decide) hf120 (fun _ h9 => h9) rfl dX1_breakThrough_33 ?_
          refine zcRV (As := [.int ((b 1 j))]) (rest := []) (st1 := [.int (zb (wayB ((brkE q k (b 2 j) (b 1 j) fi (b 3 j)).1) k (b 1 j)))]) ⟨hx, hb, hml, hown, hts⟩ (c_X2_isInWay l D y (E (5 + k)) ((brkE q k (b 2 j) (b 1 j) fi (b 3 j)).1) k (b 1 j)) (cwV 1 hts gX1_breakThrough_X2_isInWay rfl rfl rfl (by decide +kernel) ⟨Nat.le_of_ble_eq_true rfl, Nat.le_of_ble_eq_true rfl⟩) hK (z_sub_P hP (z_in_1 (k := 5 + k) (eW_w (by omega)))) (ci := 2) (q0 := 0) rfl rfl rfl rfl hl.1 rfl (lv_room (Nat.le_of_ble_eq_true rfl)) dX1_breakThrough_36 ⟨Nat.le_of_ble_eq_true rfl, Nat.le_of_ble_eq_true rfl⟩ rfl ?_
          refine lv_if_eq (tgt := 69) hx hb dX1_breakThrough_39 (by decide) (fun c8 => ?_) (fun c8 => ?_)
          · have c8 : wayB ((brkE q k (b 2 j) (b 1 j) fi (b 3 j)).1) k (b 1 j) = false := zb_f c8
            refine lv_iinc (v := nI (k + 1)) (lv' := [(2, .int (nI (k + 1))), (3, .ref (E (5 + k))), (0, .ref (E 0)), (1, .ref (E (11 + j)))]) hx hb dX1_breakThrough_69 hl (k := 1) rfl (nI_1 _) (by decide) rfl (fun ls hl => ?_)
            refine lv_goto (tgt := 2) hx hb dX1_breakThrough_72 (by decide) ?_
            have e9 : (brkE q (k + 1) (b 2 j) (b 1 j) fi (b 3 j)).1 = (brkE q k (b 2 j) (b 1 j) fi (b 3 j)).1 := by simp [brkE_s, brkS, c4, d4, c8]
            have e10 : (brkE q (k + 1) (b 2 j) (b 1 j) fi (b 3 j)).2.1 = (brkE q k (b 2 j) (b 1 j) fi (b 3 j)).2.1 := by simp [brkE_s, brkS, c4, d4, c8]
            have e11 : (up2 b 3 j (brkE q (k + 1) (b 2 j) (b 1 j) fi (b 3 j)).2.2) = (up2 b 3 j (brkE q k (b 2 j) (b 1 j) fi (b 3 j)).2.2) := by simp [brkE_s, brkS, c4, d4, c8]
            refine ihk H locs ls ?_ ?_ hS ?_
            · first | exact hP | (simp only [e9, e10, e11]; exact hP)
            · first | exact hD | (simp only [e9, e10, e11]; exact hD)
            · first | exact lv_sub hl [0, 2, 3] rfl | (simp only [e9, e10, e11]; exact lv_sub hl [0, 2, 3] rfl)
          · have c8 : wayB ((brkE q k (b 2 j) (b 1 j) fi (b 3 j)).1) k (b 1 j) = true := zb_t c8
            refine lv_aload_n hx hb dX1_breakThrough_42 rfl (lv_at hl 2 rfl) ?_
            refine lv_dup hx hb dX1_breakThrough_43 rfl ?_
            refine va_get (D := D) (ci := 1) (v := .int ((brkE q k (b 2 j) (b 1 j) fi (b 3 j)).2.1)) (C := RX1) (T := TX1) (N := 10) hx hb hts hinX1 hown hK hP (0) rfl rfl 8 (by decide) hf68 (fun _ h9 => h9) rfl dX1_breakThrough_44 ?_
            refine lv_aload_n hx hb dX1_breakThrough_47 rfl (lv_at hl 0 rfl) ?_
            refine lv_aload_n hx hb dX1_breakThrough_48 rfl (lv_at hl 3 rfl) ?_
            refine va_get (D := D) (ci := 0) (v := .int ((b 1 j))) (C := RX0) (T := TX0) (N := 4) hx hb hts hinX0 hown hK hP (11 + j) (eW_b (by omega)) rfl 1 (by decide) hf120 (fun _ h9 => h9) rfl dX1_breakThrough_49 ?_
            refine zcMV (As := [.int ((b 1 j))]) (rest := [.int ((brkE q k (b 2 j) (b 1 j) fi (b 3 j)).2.1), .ref (E 0)]) (st1 := [.int ((fineI ((brkE q k (b 2 j) (b 1 j) fi (b 3 j)).1) k)), .int ((brkE q k (b 2 j) (b 1 j) fi (b 3 j)).2.1), .ref (E 0)]) (cells1 := 0) (slots1 := 0) ⟨hx, hb, hml, hown, hts⟩ (c_X2_breakFor l D y (E (5 + k)) ((brkE q k (b 2 j) (b 1 j) fi (b 3 j)).1) k (b 1 j) _) (cwV 1 hts gX1_breakThrough_X2_breakFor rfl rfl rfl (by decide +kernel) ⟨Nat.le_of_ble_eq_true rfl, Nat.le_of_ble_eq_true rfl⟩) hK (z_sub_P hP (z_in_1 (k := 5 + k) (eW_w (by omega)))) z_D_1 (ci := 2) (q0 := 0) rfl rfl rfl rfl hl.1 rfl (lv_room (Nat.le_of_ble_eq_true rfl)) dX1_breakThrough_52 hS (z_sub_F hD hS hA (z_in_1 (k := 5 + k) (eW_w (by omega)))) ⟨Nat.le_of_ble_eq_true rfl, Nat.le_of_ble_eq_true rfl⟩ rfl rfl rfl (fun H locs hP1 hz hfr hS => ?_)
            obtain ⟨hP, hD⟩ := z_one hP hD (k := 5 + k) (eW_w (by omega)) (eW_setw (by omega) (fun j i h => breakW_k _ _ _ _ _ h)) hP1 hfr
            have hP : va_P D vwCl (eW E y t o (breakW ((brkE q k (b 2 j) (b 1 j) fi (b 3 j)).1) k (b 1 j)) (up2 b 3 j (brkE q k (b 2 j) (b 1 j) fi (b 3 j)).2.2) c bc n ar ((brkE q k (b 2 j) (b 1 j) fi (b 3 j)).2.1) re) H := hP
            have hD : va_D A (eW E y t o (breakW ((brkE q k (b 2 j) (b 1 j) fi (b 3 j)).1) k (b 1 j)) (up2 b 3 j (brkE q k (b 2 j) (b 1 j) fi (b 3 j)).2.2) c bc n ar ((brkE q k (b 2 j) (b 1 j) fi (b 3 j)).2.1) re) := hD
            refine lv_iadd hx hb dX1_breakThrough_55 ?_
            refine va_put (D := D) (ci := 1) (v := .int (((brkE q k (b 2 j) (b 1 j) fi (b 3 j)).2.1 + (fineI ((brkE q k (b 2 j) (b 1 j) fi (b 3 j)).1) k)))) (ty := .int) (C := RX1) (T := TX1) (N := 10) hx hb hts hinX1 tyX1 tyX1_ok nmX1 hown hK hP hD hS (0) rfl rfl 8 (by decide) hf68 (fun _ h9 => h9) rfl (by decide +kernel) rfl rfl (Nat.le_of_ble_eq_true rfl) dX1_breakThrough_56 (fun H locs hP hD hS => ?_)
            have hP : va_P D vwCl (eW E y t o (breakW ((brkE q k (b 2 j) (b 1 j) fi (b 3 j)).1) k (b 1 j)) (up2 b 3 j (brkE q k (b 2 j) (b 1 j) fi (b 3 j)).2.2) c bc n ar ((brkE q k (b 2 j) (b 1 j) fi (b 3 j)).2.1 + (fineI ((brkE q k (b 2 j) (b 1 j) fi (b 3 j)).1) k)) re) H := hP
            have hD : va_D A (eW E y t o (breakW ((brkE q k (b 2 j) (b 1 j) fi (b 3 j)).1) k (b 1 j)) (up2 b 3 j (brkE q k (b 2 j) (b 1 j) fi (b 3 j)).2.2) c bc n ar ((brkE q k (b 2 j) (b 1 j) fi (b 3 j)).2.1 + (fineI ((brkE q k (b 2 j) (b 1 j) fi (b 3 j)).1) k)) re) := hD
            refine lv_aload_n hx hb dX1_breakThrough_59 rfl (lv_at hl 3 rfl) ?_
            refine lv_dup hx hb dX1_breakThrough_60 rfl ?_
            refine va_get (D := D) (ci := 0) (v := .int (((up2 b 3 j (brkE q k (b 2 j) (b 1 j) fi (b 3 j)).2.2) 3 j))) (C := RX0) (T := TX0) (N := 4) hx hb hts hinX0 hown hK hP (11 + j) (eW_b (by omega)) rfl 3 (by decide) hf124 (fun _ h9 => h9) rfl dX1_breakThrough_61 ?_
            refine zt_i (x' := (brkE q k (b 2 j) (b 1 j) fi (b 3 j)).2.2) (up2_s _ _ _ _) ?_
            refine lv_iconst (v := 1) hx hb dX1_breakThrough_64 (by decide) ?_
            refine lv_iadd hx hb dX1_breakThrough_65 ?_
            refine va_put (D := D) (ci := 0) (v := .int (((brkE q k (b 2 j) (b 1 j) fi (b 3 j)).2.2 + 1))) (ty := .int) (C := RX0) (T := TX0) (N := 4) hx hb hts hinX0 tyX0 tyX0_ok nmX0 hown hK hP hD hS (11 + j) (eW_b (by omega)) rfl 3 (by decide) hf124 (fun _ h9 => h9) rfl (by decide +kernel) rfl rfl (Nat.le_of_ble_eq_true rfl) dX1_breakThrough_66 (fun H locs hP hD hS => ?_)
            rw [bF_3, eW_setb (by omega) (fun j i h => up2_k _ _ _ _ _ _ h), up2_2] at hP hD
            have hP : va_P D vwCl (eW E y t o (breakW ((brkE q k (b 2 j) (b 1 j) fi (b 3 j)).1) k (b 1 j)) (up2 b 3 j ((brkE q k (b 2 j) (b 1 j) fi (b 3 j)).2.2 + 1)) c bc n ar ((brkE q k (b 2 j) (b 1 j) fi (b 3 j)).2.1 + (fineI ((brkE q k (b 2 j) (b 1 j) fi (b 3 j)).1) k)) re) H := hP
            have hD : va_D A (eW E y t o (breakW ((brkE q k (b 2 j) (b 1 j) fi (b 3 j)).1) k (b 1 j)) (up2 b 3 j ((brkE q k (b 2 j) (b 1 j) fi (b 3 j)).2.2 + 1)) c bc n ar ((brkE q k (b 2 j) (b 1 j) fi (b 3 j)).2.1 + (fineI ((brkE q k (b 2 j) (b 1 j) fi (b 3 j)).1) k)) re) := hD
            refine lv_iinc (v := nI (k + 1)) (lv' := [(2, .int (nI (k + 1))), (3, .ref (E (5 + k))), (0, .ref (E 0)), (1, .ref (E (11 + j)))]) hx hb dX1_breakThrough_69 hl (k := 1) rfl (nI_1 _) (by decide) rfl (fun ls hl => ?_)
            refine lv_goto (tgt := 2) hx hb dX1_breakThrough_72 (by decide) ?_
            have e12 : (brkE q (k + 1) (b 2 j) (b 1 j) fi (b 3 j)).1 = (breakW ((brkE q k (b 2 j) (b 1 j) fi (b 3 j)).1) k (b 1 j)) := by simp [brkE_s, brkS, c4, d4, c8]
            have e13 : (brkE q (k + 1) (b 2 j) (b 1 j) fi (b 3 j)).2.1 = ((brkE q k (b 2 j) (b 1 j) fi (b 3 j)).2.1 + (fineI ((brkE q k (b 2 j) (b 1 j) fi (b 3 j)).1) k)) := by simp [brkE_s, brkS, c4, d4, c8]
            have e14 : (up2 b 3 j (brkE q (k + 1) (b 2 j) (b 1 j) fi (b 3 j)).2.2) = (up2 b 3 j ((brkE q k (b 2 j) (b 1 j) fi (b 3 j)).2.2 + 1)) := by simp [brkE_s, brkS, c4, d4, c8]
            refine ihk H locs ls ?_ ?_ hS ?_
            · first | exact hP | (simp only [e12, e13, e14]; exact hP)
            · first | exact hD | (simp only [e12, e13, e14]; exact hD)
            · first | exact lv_sub hl [0, 2, 3] rfl | (simp only [e12, e13, e14]; exact lv_sub hl [0, 2, 3] rfl)
  exact loop1 0 (Nat.zero_le _) H locs ls hP hD hS (lv_sub hl [0, 1, 2] rfl)
end
section
theorem goB_2 (b : Fld) (k : Nat) (x : Int32) : goB b k x 2 k = minI (b 2 k + 5) x := up2_s _ _ _ _
theorem goB_1 (b : Fld) (k i : Nat) (x : Int32) : goB b k x 1 i = b 1 i := rfl
theorem goB_3 (b : Fld) (k i : Nat) (x : Int32) : goB b k x 3 i = b 3 i := rfl
set_option maxHeartbeats 4000000 in
set_option maxRecDepth 100000 in
theorem c_X1_moveBarges (l : Launch) (D : va_G) (y : Nat → ClassId) (E : Nat → Nat) (t : Nat → Int32) (o : Nat → Nat) (q b : Fld) (c bc n : Nat) (ar fi re : Int32) (hc : c ≤ 6) (hbc : bc ≤ 5) (sz : Nat) : zM l yX1_moveBarges wsX1_moveBarges { frames := 3, cells := 0, slots := 0, locals := 66 } D y [.ref (E 0)] (eW E y t o q b c bc n ar fi re) sz (none) (eW E y t o ((movE q b c bc fi).1) ((movE q b c bc fi).2.1) c bc n ar ((movE q b c bc fi).2.2) re) 0 0 := by
  refine zM.ofH (cc := cX1_moveBarges) (maxL := 4) (ret := none) (own := RX1) (by decide) rfl (Nat.le_of_ble_eq_true rfl) rfl ?_
  intro p e s m args below meth cd ls A H locs hx hb hr hml hown hts hlocks hP hK hD hA hS hl hin
  have hS0 := hS
  have hl : lv_has ls 4 [(0, .ref (E 0))] := hl
  have hf51 : (Cond.fieldLink RX1 51 "StakeWeirs$Estuary" "bargeCount" "I").before args s = true := hts _ (by decide +kernel)
  have hinX1 : ∀ w ∈ wsX10, w ∈ wsX1_moveBarges := by decide +kernel
  have hf93 : (Cond.fieldLink RX1 93 "StakeWeirs$Weir" "place" "I").before args s = true := hts _ (by decide +kernel)
  have hinX2 : ∀ w ∈ wsX20, w ∈ wsX1_moveBarges := by decide +kernel
  refine lv_iconst (v := 0) hx hb dX1_moveBarges_0 (by decide) ?_
  refine lv_istore_n (lv' := [(1, .int 0), (0, .ref (E 0))]) hx hb dX1_moveBarges_1 rfl hl (by decide) rfl (fun ls hl => ?_)
  have loop1 : ∀ k, k ≤ bc → ∀ (H : Heap) (locs : List Loc) (ls : Array Slot), va_P D vwCl (eW E y t o ((movE q b c k fi).1) ((movE q b c k fi).2.1) c bc n ar ((movE q b c k fi).2.2) re) H → va_D A (eW E y t o ((movE q b c k fi).1) ((movE q b c k fi).2.1) c bc n ar ((movE q b c k fi).2.2) re) → va_S A s.heap H locs → lv_has ls 4 [(1, .int (nI k)), (0, .ref (E 0))] → W p l e ({ frames := 3, cells := 0, slots := 0, locals := 66 } : Room) s m args below meth cd H locs 0 0 (MQ below (zMQ (none) D (eW E y t o ((movE q b c bc fi).1) ((movE q b c bc fi).2.1) c bc n ar ((movE q b c bc fi).2.2) re) A) args s 0 0 A) (F0 m 2 ls []) := by
    refine down ?_ ?_
    · intro H locs ls hP hD hS hl
      refine lv_iload_n hx hb dX1_moveBarges_2 rfl (lv_at hl 0 rfl) ?_
      refine lv_aload_n hx hb dX1_moveBarges_3 rfl (lv_at hl 1 rfl) ?_
      refine va_get (D := D) (ci := 1) (v := .int (nI bc)) (C := RX1) (T := TX1) (N := 10) hx hb hts hinX1 hown hK hP (0) rfl rfl 5 (by decide) hf51 (fun _ h9 => h9) rfl dX1_moveBarges_4 ?_
      refine lv_icmp_ge (tgt := 58) hx hb dX1_moveBarges_7 (by decide) (fun c2 => ?_) (fun c2 => ?_)
      · have d2 := Int32.not_lt.mpr c2
        exact zM_v hx hb hr hlocks hS dX1_moveBarges_58 rfl hP
      · exact absurd (nI_le (a := bc) (b := bc) (by omega) (by omega)) c2
    · intro k hkk ihk H locs ls hP hD hS hl
      refine lv_iload_n hx hb dX1_moveBarges_2 rfl (lv_at hl 0 rfl) ?_
      refine lv_aload_n hx hb dX1_moveBarges_3 rfl (lv_at hl 1 rfl) ?_
      refine va_get (D := D) (ci := 1) (v := .int (nI bc)) (C := RX1) (T := TX1) (N := 10) hx hb hts hinX1 hown hK hP (0) rfl rfl 5 (by decide) hf51 (fun _ h9 => h9) rfl dX1_moveBarges_4 ?_
      refine lv_icmp_ge (tgt := 58) hx hb dX1_moveBarges_7 (by decide) (fun c3 => ?_) (fun c3 => ?_)
      · exact absurd c3 (nI_ge (a := k) (b := bc) (by omega) (by omega))
      · have d3 := Int32.not_le.mp c3
        refine lv_aload_n hx hb dX1_moveBarges_10 rfl (lv_at hl 1 rfl) ?_
        refine lv_iload_n hx hb dX1_moveBarges_11 rfl (lv_at hl 0 rfl) ?_
        refine zcRV (As := [.int (nI k)]) (rest := []) (st1 := [.ref (E (11 + k))]) ⟨hx, hb, hml, hown, hts⟩ (c_X1_bargeAt l D y E t o ((movE q b c k fi).1) ((movE q b c k fi).2.1) c bc n ar ((movE q b c k fi).2.2) re k (by omega) (by omega)) (cwV 1 hts gX1_moveBarges_X1_bargeAt rfl rfl rfl (by decide +kernel) ⟨Nat.le_of_ble_eq_true rfl, Nat.le_of_ble_eq_true rfl⟩) hK hP (ci := 1) (q0 := 0) rfl rfl rfl rfl hl.1 rfl (lv_room (Nat.le_of_ble_eq_true rfl)) dX1_moveBarges_12 ⟨Nat.le_of_ble_eq_true rfl, Nat.le_of_ble_eq_true rfl⟩ rfl ?_
        refine lv_astore_n (lv' := [(2, .ref (E (11 + k))), (1, .int (nI k)), (0, .ref (E 0))]) hx hb dX1_moveBarges_15 rfl hl (by decide) rfl (fun ls hl => ?_)
        refine lv_aload_n hx hb dX1_moveBarges_16 rfl (lv_at hl 0 rfl) ?_
        refine lv_ifnull hx hb dX1_moveBarges_17 ?_
        refine lv_aload_n hx hb dX1_moveBarges_20 rfl (lv_at hl 2 rfl) ?_
        refine lv_aload_n hx hb dX1_moveBarges_21 rfl (lv_at hl 2 rfl) ?_
        refine lv_aload_n hx hb dX1_moveBarges_22 rfl (lv_at hl 0 rfl) ?_
        refine zcRV (As := [.ref (E (11 + k))]) (rest := [.ref (E 0)]) (st1 := [.int ((nextE ((movE q b c k fi).1) c ((movE q b c k fi).2.1 2 k) ((movE q b c k fi).2.1 1 k)).1), .ref (E 0)]) ⟨hx, hb, hml, hown, hts⟩ (c_X1_nextInWay l D y E t o ((movE q b c k fi).1) ((movE q b c k fi).2.1) c bc n ar ((movE q b c k fi).2.2) re k (by omega) (by omega)) (cwV 1 hts gX1_moveBarges_X1_nextInWay rfl rfl rfl (by decide +kernel) ⟨Nat.le_of_ble_eq_true rfl, Nat.le_of_ble_eq_true rfl⟩) hK hP (ci := 1) (q0 := 0) rfl rfl rfl rfl hl.1 rfl (lv_room (Nat.le_of_ble_eq_true rfl)) dX1_moveBarges_23 ⟨Nat.le_of_ble_eq_true rfl, Nat.le_of_ble_eq_true rfl⟩ rfl ?_
        rcases nextE_c ((movE q b c k fi).1) c ((movE q b c k fi).2.1 2 k) ((movE q b c k fi).2.1 1 k) with hn | ⟨i4, hi, hn, hn2⟩
        · skip
          refine zt_i (x' := (-1)) hn ?_
          refine zcRV (As := [.int (-1)]) (rest := []) (st1 := [.null]) ⟨hx, hb, hml, hown, hts⟩ (c_X1_weirAt_no l D y E t o ((movE q b c k fi).1) ((movE q b c k fi).2.1) c bc n ar ((movE q b c k fi).2.2) re (-1) (Or.inl (by decide)) (by omega)) (cwV 1 hts gX1_moveBarges_X1_weirAt rfl rfl rfl (by decide +kernel) ⟨Nat.le_of_ble_eq_true rfl, Nat.le_of_ble_eq_true rfl⟩) hK hP (ci := 1) (q0 := 0) rfl rfl rfl rfl hl.1 rfl (lv_room (Nat.le_of_ble_eq_true rfl)) dX1_moveBarges_26 ⟨Nat.le_of_ble_eq_true rfl, Nat.le_of_ble_eq_true rfl⟩ rfl ?_
          refine lv_astore_nN (lv' := [(3, .null), (2, .ref (E (11 + k))), (1, .int (nI k)), (0, .ref (E 0))]) hx hb dX1_moveBarges_29 rfl hl (by decide) rfl (fun ls hl => ?_)
          refine lv_aload_n hx hb dX1_moveBarges_30 rfl (lv_at hl 1 rfl) ?_
          refine lv_aload_nN hx hb dX1_moveBarges_31 rfl (lv_at hl 0 rfl) ?_
          refine lv_ifnonnullN hx hb dX1_moveBarges_32 ?_
          refine lv_bipush (v := 39) hx hb dX1_moveBarges_35 (by decide) ?_
          refine lv_goto (tgt := 44) hx hb dX1_moveBarges_37 (by decide) ?_
          refine zcMV (As := [.int 39]) (rest := []) (st1 := []) (cells1 := 0) (slots1 := 0) ⟨hx, hb, hml, hown, hts⟩ (c_X0_goOn l D y (E (11 + k)) ((movE q b c k fi).2.1) k 39 _) (cwV 1 hts gX1_moveBarges_X0_goOn rfl rfl rfl (by decide +kernel) ⟨Nat.le_of_ble_eq_true rfl, Nat.le_of_ble_eq_true rfl⟩) hK (z_sub_P hP (z_in_1 (k := 11 + k) (eW_b (by omega)))) z_D_1 (ci := 0) (q0 := 0) rfl rfl rfl rfl hl.1 rfl (lv_room (Nat.le_of_ble_eq_true rfl)) dX1_moveBarges_44 hS (z_sub_F hD hS hA (z_in_1 (k := 11 + k) (eW_b (by omega)))) ⟨Nat.le_of_ble_eq_true rfl, Nat.le_of_ble_eq_true rfl⟩ rfl rfl rfl (fun H locs hP1 hz hfr hS => ?_)
          obtain ⟨hP, hD⟩ := z_one hP hD (k := 11 + k) (eW_b (by omega)) (eW_setb (by omega) (fun j i h => goB_k _ _ _ _ _ h)) hP1 hfr
          have hP : va_P D vwCl (eW E y t o ((movE q b c k fi).1) (goB ((movE q b c k fi).2.1) k 39) c bc n ar ((movE q b c k fi).2.2) re) H := hP
          have hD : va_D A (eW E y t o ((movE q b c k fi).1) (goB ((movE q b c k fi).2.1) k 39) c bc n ar ((movE q b c k fi).2.2) re) := hD
          refine lv_aload_n hx hb dX1_moveBarges_47 rfl (lv_at hl 3 rfl) ?_
          refine lv_aload_n hx hb dX1_moveBarges_48 rfl (lv_at hl 1 rfl) ?_
          refine zcMV (As := [.ref (E (11 + k))]) (rest := []) (st1 := []) (cells1 := 0) (slots1 := 0) ⟨hx, hb, hml, hown, hts⟩ (c_X1_breakThrough l D y E t o ((movE q b c k fi).1) (goB ((movE q b c k fi).2.1) k 39) c bc n ar ((movE q b c k fi).2.2) re k (by omega) (by omega) _) (cwV 1 hts gX1_moveBarges_X1_breakThrough rfl rfl rfl (by decide +kernel) ⟨Nat.le_of_ble_eq_true rfl, Nat.le_of_ble_eq_true rfl⟩) hK hP (z_D_T hD) (ci := 1) (q0 := 0) rfl rfl rfl rfl hl.1 rfl (lv_room (Nat.le_of_ble_eq_true rfl)) dX1_moveBarges_49 hS (z_sub_F hD hS hA z_in_r) ⟨Nat.le_of_ble_eq_true rfl, Nat.le_of_ble_eq_true rfl⟩ rfl rfl rfl (fun H locs hP1 hz hfr hS => ?_)
          have hD := z_D_adr hD (show (eW E y t o ((brkE ((movE q b c k fi).1) c ((goB ((movE q b c k fi).2.1) k 39) 2 k) ((goB ((movE q b c k fi).2.1) k 39) 1 k) ((movE q b c k fi).2.2) ((goB ((movE q b c k fi).2.1) k 39) 3 k)).1) (up2 (goB ((movE q b c k fi).2.1) k 39) 3 k (brkE ((movE q b c k fi).1) c ((goB ((movE q b c k fi).2.1) k 39) 2 k) ((goB ((movE q b c k fi).2.1) k 39) 1 k) ((movE q b c k fi).2.2) ((goB ((movE q b c k fi).2.1) k 39) 3 k)).2.2) c bc n ar ((brkE ((movE q b c k fi).1) c ((goB ((movE q b c k fi).2.1) k 39) 2 k) ((goB ((movE q b c k fi).2.1) k 39) 1 k) ((movE q b c k fi).2.2) ((goB ((movE q b c k fi).2.1) k 39) 3 k)).2.1) re).map Prod.fst = _ from rfl)
          have hP := hP1
          refine lv_iinc (v := nI (k + 1)) (lv' := [(1, .int (nI (k + 1))), (3, .null), (2, .ref (E (11 + k))), (0, .ref (E 0))]) hx hb dX1_moveBarges_52 hl (k := 2) rfl (nI_1 _) (by decide) rfl (fun ls hl => ?_)
          refine lv_goto (tgt := 2) hx hb dX1_moveBarges_55 (by decide) ?_
          have e5 : (movE q b c (k + 1) fi).1 = (brkE ((movE q b c k fi).1) c ((goB ((movE q b c k fi).2.1) k 39) 2 k) ((goB ((movE q b c k fi).2.1) k 39) 1 k) ((movE q b c k fi).2.2) ((goB ((movE q b c k fi).2.1) k 39) 3 k)).1 := by rw [movE_s]; simp only [movS, farI, goB_2, goB_1, goB_3, hn, if_true, if_false] <;> rfl
          have e6 : (movE q b c (k + 1) fi).2.1 = (up2 (goB ((movE q b c k fi).2.1) k 39) 3 k (brkE ((movE q b c k fi).1) c ((goB ((movE q b c k fi).2.1) k 39) 2 k) ((goB ((movE q b c k fi).2.1) k 39) 1 k) ((movE q b c k fi).2.2) ((goB ((movE q b c k fi).2.1) k 39) 3 k)).2.2) := by rw [movE_s]; simp only [movS, farI, goB_2, goB_1, goB_3, hn, if_true, if_false] <;> rfl
          have e7 : (movE q b c (k + 1) fi).2.2 = (brkE ((movE q b c k fi).1) c ((goB ((movE q b c k fi).2.1) k 39) 2 k) ((goB ((movE q b c k fi).2.1) k 39) 1 k) ((movE q b c k fi).2.2) ((goB ((movE q b c k fi).2.1) k 39) 3 k)).2.1 := by rw [movE_s]; simp only [movS, farI, goB_2, goB_1, goB_3, hn, if_true, if_false] <;> rfl
          refine ihk H locs ls ?_ ?_ hS ?_
          · first | exact hP | (simp only [e5, e6, e7]; exact hP)
          · first | exact hD | (simp only [e5, e6, e7]; exact hD)
          · first | exact lv_sub hl [0, 3] rfl | (simp only [e5, e6, e7]; exact lv_sub hl [0, 3] rfl)
        · skip
          have hne : ¬ nI i4 = -1 := nI_nm1 (by omega)
          refine zt_i (x' := nI i4) hn ?_
          refine zcRV (As := [.int (nI i4)]) (rest := []) (st1 := [.ref (E (5 + i4))]) ⟨hx, hb, hml, hown, hts⟩ (c_X1_weirAt l D y E t o ((movE q b c k fi).1) ((movE q b c k fi).2.1) c bc n ar ((movE q b c k fi).2.2) re i4 (by omega) (by omega)) (cwV 1 hts gX1_moveBarges_X1_weirAt rfl rfl rfl (by decide +kernel) ⟨Nat.le_of_ble_eq_true rfl, Nat.le_of_ble_eq_true rfl⟩) hK hP (ci := 1) (q0 := 0) rfl rfl rfl rfl hl.1 rfl (lv_room (Nat.le_of_ble_eq_true rfl)) dX1_moveBarges_26 ⟨Nat.le_of_ble_eq_true rfl, Nat.le_of_ble_eq_true rfl⟩ rfl ?_
          refine lv_astore_n (lv' := [(3, .ref (E (5 + i4))), (2, .ref (E (11 + k))), (1, .int (nI k)), (0, .ref (E 0))]) hx hb dX1_moveBarges_29 rfl hl (by decide) rfl (fun ls hl => ?_)
          refine lv_aload_n hx hb dX1_moveBarges_30 rfl (lv_at hl 1 rfl) ?_
          refine lv_aload_n hx hb dX1_moveBarges_31 rfl (lv_at hl 0 rfl) ?_
          refine lv_ifnonnull (tgt := 40) hx hb dX1_moveBarges_32 (by decide) ?_
          refine lv_aload_n hx hb dX1_moveBarges_40 rfl (lv_at hl 0 rfl) ?_
          refine va_get (D := D) (ci := 2) (v := .int ((((movE q b c k fi).1) 0 i4))) (C := RX2) (T := TX2) (N := 8) hx hb hts hinX2 hown hK hP (5 + i4) (eW_w (by omega)) rfl 0 (by decide) hf93 (fun _ h9 => h9) rfl dX1_moveBarges_41 ?_
          refine zcMV (As := [.int ((((movE q b c k fi).1) 0 i4))]) (rest := []) (st1 := []) (cells1 := 0) (slots1 := 0) ⟨hx, hb, hml, hown, hts⟩ (c_X0_goOn l D y (E (11 + k)) ((movE q b c k fi).2.1) k (((movE q b c k fi).1) 0 i4) _) (cwV 1 hts gX1_moveBarges_X0_goOn rfl rfl rfl (by decide +kernel) ⟨Nat.le_of_ble_eq_true rfl, Nat.le_of_ble_eq_true rfl⟩) hK (z_sub_P hP (z_in_1 (k := 11 + k) (eW_b (by omega)))) z_D_1 (ci := 0) (q0 := 0) rfl rfl rfl rfl hl.1 rfl (lv_room (Nat.le_of_ble_eq_true rfl)) dX1_moveBarges_44 hS (z_sub_F hD hS hA (z_in_1 (k := 11 + k) (eW_b (by omega)))) ⟨Nat.le_of_ble_eq_true rfl, Nat.le_of_ble_eq_true rfl⟩ rfl rfl rfl (fun H locs hP1 hz hfr hS => ?_)
          obtain ⟨hP, hD⟩ := z_one hP hD (k := 11 + k) (eW_b (by omega)) (eW_setb (by omega) (fun j i h => goB_k _ _ _ _ _ h)) hP1 hfr
          have hP : va_P D vwCl (eW E y t o ((movE q b c k fi).1) (goB ((movE q b c k fi).2.1) k (((movE q b c k fi).1) 0 i4)) c bc n ar ((movE q b c k fi).2.2) re) H := hP
          have hD : va_D A (eW E y t o ((movE q b c k fi).1) (goB ((movE q b c k fi).2.1) k (((movE q b c k fi).1) 0 i4)) c bc n ar ((movE q b c k fi).2.2) re) := hD
          refine lv_aload_n hx hb dX1_moveBarges_47 rfl (lv_at hl 3 rfl) ?_
          refine lv_aload_n hx hb dX1_moveBarges_48 rfl (lv_at hl 1 rfl) ?_
          refine zcMV (As := [.ref (E (11 + k))]) (rest := []) (st1 := []) (cells1 := 0) (slots1 := 0) ⟨hx, hb, hml, hown, hts⟩ (c_X1_breakThrough l D y E t o ((movE q b c k fi).1) (goB ((movE q b c k fi).2.1) k (((movE q b c k fi).1) 0 i4)) c bc n ar ((movE q b c k fi).2.2) re k (by omega) (by omega) _) (cwV 1 hts gX1_moveBarges_X1_breakThrough rfl rfl rfl (by decide +kernel) ⟨Nat.le_of_ble_eq_true rfl, Nat.le_of_ble_eq_true rfl⟩) hK hP (z_D_T hD) (ci := 1) (q0 := 0) rfl rfl rfl rfl hl.1 rfl (lv_room (Nat.le_of_ble_eq_true rfl)) dX1_moveBarges_49 hS (z_sub_F hD hS hA z_in_r) ⟨Nat.le_of_ble_eq_true rfl, Nat.le_of_ble_eq_true rfl⟩ rfl rfl rfl (fun H locs hP1 hz hfr hS => ?_)
          have hD := z_D_adr hD (show (eW E y t o ((brkE ((movE q b c k fi).1) c ((goB ((movE q b c k fi).2.1) k (((movE q b c k fi).1) 0 i4)) 2 k) ((goB ((movE q b c k fi).2.1) k (((movE q b c k fi).1) 0 i4)) 1 k) ((movE q b c k fi).2.2) ((goB ((movE q b c k fi).2.1) k (((movE q b c k fi).1) 0 i4)) 3 k)).1) (up2 (goB ((movE q b c k fi).2.1) k (((movE q b c k fi).1) 0 i4)) 3 k (brkE ((movE q b c k fi).1) c ((goB ((movE q b c k fi).2.1) k (((movE q b c k fi).1) 0 i4)) 2 k) ((goB ((movE q b c k fi).2.1) k (((movE q b c k fi).1) 0 i4)) 1 k) ((movE q b c k fi).2.2) ((goB ((movE q b c k fi).2.1) k (((movE q b c k fi).1) 0 i4)) 3 k)).2.2) c bc n ar ((brkE ((movE q b c k fi).1) c ((goB ((movE q b c k fi).2.1) k (((movE q b c k fi).1) 0 i4)) 2 k) ((goB ((movE q b c k fi).2.1) k (((movE q b c k fi).1) 0 i4)) 1 k) ((movE q b c k fi).2.2) ((goB ((movE q b c k fi).2.1) k (((movE q b c k fi).1) 0 i4)) 3 k)).2.1) re).map Prod.fst = _ from rfl)
          have hP := hP1
          refine lv_iinc (v := nI (k + 1)) (lv' := [(1, .int (nI (k + 1))), (3, .ref (E (5 + i4))), (2, .ref (E (11 + k))), (0, .ref (E 0))]) hx hb dX1_moveBarges_52 hl (k := 2) rfl (nI_1 _) (by decide) rfl (fun ls hl => ?_)
          refine lv_goto (tgt := 2) hx hb dX1_moveBarges_55 (by decide) ?_
          have e8 : (movE q b c (k + 1) fi).1 = (brkE ((movE q b c k fi).1) c ((goB ((movE q b c k fi).2.1) k (((movE q b c k fi).1) 0 i4)) 2 k) ((goB ((movE q b c k fi).2.1) k (((movE q b c k fi).1) 0 i4)) 1 k) ((movE q b c k fi).2.2) ((goB ((movE q b c k fi).2.1) k (((movE q b c k fi).1) 0 i4)) 3 k)).1 := by rw [movE_s]; simp only [movS, farI, goB_2, goB_1, goB_3, hn, hn2, hne, if_true, if_false] <;> rfl
          have e9 : (movE q b c (k + 1) fi).2.1 = (up2 (goB ((movE q b c k fi).2.1) k (((movE q b c k fi).1) 0 i4)) 3 k (brkE ((movE q b c k fi).1) c ((goB ((movE q b c k fi).2.1) k (((movE q b c k fi).1) 0 i4)) 2 k) ((goB ((movE q b c k fi).2.1) k (((movE q b c k fi).1) 0 i4)) 1 k) ((movE q b c k fi).2.2) ((goB ((movE q b c k fi).2.1) k (((movE q b c k fi).1) 0 i4)) 3 k)).2.2) := by rw [movE_s]; simp only [movS, farI, goB_2, goB_1, goB_3, hn, hn2, hne, if_true, if_false] <;> rfl
          have e10 : (movE q b c (k + 1) fi).2.2 = (brkE ((movE q b c k fi).1) c ((goB ((movE q b c k fi).2.1) k (((movE q b c k fi).1) 0 i4)) 2 k) ((goB ((movE q b c k fi).2.1) k (((movE q b c k fi).1) 0 i4)) 1 k) ((movE q b c k fi).2.2) ((goB ((movE q b c k fi).2.1) k (((movE q b c k fi).1) 0 i4)) 3 k)).2.1 := by rw [movE_s]; simp only [movS, farI, goB_2, goB_1, goB_3, hn, hn2, hne, if_true, if_false] <;> rfl
          refine ihk H locs ls ?_ ?_ hS ?_
          · first | exact hP | (simp only [e8, e9, e10]; exact hP)
          · first | exact hD | (simp only [e8, e9, e10]; exact hD)
          · first | exact lv_sub hl [0, 3] rfl | (simp only [e8, e9, e10]; exact lv_sub hl [0, 3] rfl)
  exact loop1 0 (Nat.zero_le _) H locs ls hP hD hS (lv_sub hl [0, 1] rfl)
theorem z_in_2 {ws : va_W} {i j : Nat} {x z : Nat × va_E} (h : ws[i]? = some x) (h2 : ws[j]? = some z) : ∀ u, u ∈ [x, z] → u ∈ ws := fun u hu => by
  rcases List.mem_cons.mp hu with rfl | hu
  · exact List.mem_of_getElem? h
  · rw [List.mem_singleton.mp hu]; exact List.mem_of_getElem? h2
theorem z_D_2 {A : Nat → Prop} {ws : va_W} (hD : va_D A ws) {i j : Nat} {x z : Nat × va_E} (h : ws[i]? = some x) (h2 : ws[j]? = some z) (hij : i ≠ j) : va_D (fun _ => True) [x, z] := by
  have hxz : x.1 ≠ z.1 := fun e => hij (hD.1 i j x z h h2 e)
  refine ⟨fun a b p q ha hb hpq => ?_, fun _ _ _ => trivial⟩
  match a, b with
  | 0, 0 => rfl
  | 1, 1 => rfl
  | 0, 1 => cases ha; cases hb; exact absurd hpq hxz
  | 1, 0 => cases ha; cases hb; exact absurd hpq.symm hxz
  | a + 2, _ => simp at ha
  | _, b + 2 => simp at hb
theorem z_two {D : va_G} {A0 : Nat → Prop} {ws ws1 : va_W} {H H1 : Heap} {i j a b : Nat} {e e' e2 : va_E} (hP : va_P D vwCl ws H) (hD : va_D A0 ws) (hi : ws[i]? = some (a, e)) (hj : ws[j]? = some (b, e2)) (hij : i ≠ j) (hset : ws.set i (a, e') = ws1) (hP1 : va_P D vwCl [(a, e'), (b, e2)] H1) (hfr : ∀ q : Nat, q < H.size → ¬ va_A [(a, e), (b, e2)] H.size q → H1[q]? = H[q]?) : va_P D vwCl ws1 H1 ∧ va_D A0 ws1 := by
  subst hset
  refine ⟨?_, hD.set hi⟩
  intro k q hk
  by_cases hki : k = i
  · subst hki
    have hl := (List.getElem?_eq_some_iff.mp hi).1
    rw [List.getElem?_set_self hl] at hk
    cases hk
    exact hP1 0 _ rfl
  · rw [List.getElem?_set_ne (Ne.symm hki)] at hk
    by_cases hkj : k = j
    · subst hkj
      cases hk.symm.trans hj
      exact hP1 1 _ rfl
    · have h1 := hP k q hk
      refine h1.kept (hfr q.1 h1.lt ?_)
      intro h9
      rcases h9 with ⟨n, e9, h9⟩ | h9
      · rcases List.mem_cons.mp (List.mem_of_getElem? h9) with h10 | h10
        · exact hki (hD.1 k i q (a, e) hk hi (show q.1 = a from congrArg Prod.fst h10))
        · exact hkj (hD.1 k j q (b, e2) hk hj (show q.1 = b from congrArg Prod.fst (List.mem_singleton.mp h10)))
      · exact absurd h1.lt (Nat.not_lt.mpr h9)
set_option maxHeartbeats 4000000 in
set_option maxRecDepth 100000 in
theorem c_X1_leaveOutArrived (l : Launch) (D : va_G) (y : Nat → ClassId) (E : Nat → Nat) (t : Nat → Int32) (o : Nat → Nat) (q b : Fld) (c bc n : Nat) (ar fi re : Int32) (hbc : bc ≤ 5) (sz : Nat) : zM l yX1_leaveOutArrived wsX1_leaveOutArrived { frames := 2, cells := 0, slots := 0, locals := 42 } D y [.ref (E 0)] (eW E y t o q b c bc n ar fi re) sz (none) (eW E y t o q ((lvE b bc).1) c ((lvE b bc).2) n (ar + (nI bc - nI (lvE b bc).2)) fi re) 0 0 := by
  refine zM.ofH (cc := cX1_leaveOutArrived) (maxL := 4) (ret := none) (own := RX1) (by decide) rfl (Nat.le_of_ble_eq_true rfl) rfl ?_
  intro p e s m args below meth cd ls A H locs hx hb hr hml hown hts hlocks hP hK hD hA hS hl hin
  have hS0 := hS
  have hl : lv_has ls 4 [(0, .ref (E 0))] := hl
  have hf51 : (Cond.fieldLink RX1 51 "StakeWeirs$Estuary" "bargeCount" "I").before args s = true := hts _ (by decide +kernel)
  have hinX1 : ∀ w ∈ wsX10, w ∈ wsX1_leaveOutArrived := by decide +kernel
  have hf65 : (Cond.fieldLink RX1 65 "StakeWeirs$Estuary" "arrived" "I").before args s = true := hts _ (by decide +kernel)
  have hf123 : (Cond.fieldLink RX1 123 "StakeWeirs$Barge" "place" "I").before args s = true := hts _ (by decide +kernel)
  have hinX0 : ∀ w ∈ wsX00, w ∈ wsX1_leaveOutArrived := by decide +kernel
  refine lv_iconst (v := 0) hx hb dX1_leaveOutArrived_0 (by decide) ?_
  refine lv_istore_n (lv' := [(1, .int 0), (0, .ref (E 0))]) hx hb dX1_leaveOutArrived_1 rfl hl (by decide) rfl (fun ls hl => ?_)
  refine lv_iconst (v := 0) hx hb dX1_leaveOutArrived_2 (by decide) ?_
  refine lv_istore_n (lv' := [(2, .int 0), (1, .int 0), (0, .ref (E 0))]) hx hb dX1_leaveOutArrived_3 rfl hl (by decide) rfl (fun ls hl => ?_)
  have loop1 : ∀ k, k ≤ bc → ∀ (H : Heap) (locs : List Loc) (ls : Array Slot), va_P D vwCl (eW E y t o q ((lvE b k).1) c bc n ar fi re) H → va_D A (eW E y t o q ((lvE b k).1) c bc n ar fi re) → va_S A s.heap H locs → lv_has ls 4 [(2, .int (nI k)), (1, .int (nI (lvE b k).2)), (0, .ref (E 0))] → W p l e ({ frames := 2, cells := 0, slots := 0, locals := 42 } : Room) s m args below meth cd H locs 0 0 (MQ below (zMQ (none) D (eW E y t o q ((lvE b bc).1) c ((lvE b bc).2) n (ar + (nI bc - nI (lvE b bc).2)) fi re) A) args s 0 0 A) (F0 m 4 ls []) := by
    refine down ?_ ?_
    · intro H locs ls hP hD hS hl
      refine lv_iload_n hx hb dX1_leaveOutArrived_4 rfl (lv_at hl 0 rfl) ?_
      refine lv_aload_n hx hb dX1_leaveOutArrived_5 rfl (lv_at hl 2 rfl) ?_
      refine va_get (D := D) (ci := 1) (v := .int (nI bc)) (C := RX1) (T := TX1) (N := 10) hx hb hts hinX1 hown hK hP (0) rfl rfl 5 (by decide) hf51 (fun _ h9 => h9) rfl dX1_leaveOutArrived_6 ?_
      refine lv_icmp_ge (tgt := 49) hx hb dX1_leaveOutArrived_9 (by decide) (fun c2 => ?_) (fun c2 => ?_)
      · have d2 := Int32.not_lt.mpr c2
        refine lv_aload_n hx hb dX1_leaveOutArrived_49 rfl (lv_at hl 2 rfl) ?_
        refine lv_dup hx hb dX1_leaveOutArrived_50 rfl ?_
        refine va_get (D := D) (ci := 1) (v := .int ar) (C := RX1) (T := TX1) (N := 10) hx hb hts hinX1 hown hK hP (0) rfl rfl 7 (by decide) hf65 (fun _ h9 => h9) rfl dX1_leaveOutArrived_51 ?_
        refine lv_aload_n hx hb dX1_leaveOutArrived_54 rfl (lv_at hl 2 rfl) ?_
        refine va_get (D := D) (ci := 1) (v := .int (nI bc)) (C := RX1) (T := TX1) (N := 10) hx hb hts hinX1 hown hK hP (0) rfl rfl 5 (by decide) hf51 (fun _ h9 => h9) rfl dX1_leaveOutArrived_55 ?_
        refine lv_iload_n hx hb dX1_leaveOutArrived_58 rfl (lv_at hl 1 rfl) ?_
        refine lv_isub hx hb dX1_leaveOutArrived_59 ?_
        refine lv_iadd hx hb dX1_leaveOutArrived_60 ?_
        refine va_put (D := D) (ci := 1) (v := .int ((ar + (nI bc - nI (lvE b bc).2)))) (ty := .int) (C := RX1) (T := TX1) (N := 10) hx hb hts hinX1 tyX1 tyX1_ok nmX1 hown hK hP hD hS (0) rfl rfl 7 (by decide) hf65 (fun _ h9 => h9) rfl (by decide +kernel) rfl rfl (Nat.le_of_ble_eq_true rfl) dX1_leaveOutArrived_61 (fun H locs hP hD hS => ?_)
        have hP : va_P D vwCl (eW E y t o q ((lvE b bc).1) c bc n (ar + (nI bc - nI (lvE b bc).2)) fi re) H := hP
        have hD : va_D A (eW E y t o q ((lvE b bc).1) c bc n (ar + (nI bc - nI (lvE b bc).2)) fi re) := hD
        refine lv_aload_n hx hb dX1_leaveOutArrived_64 rfl (lv_at hl 2 rfl) ?_
        refine lv_iload_n hx hb dX1_leaveOutArrived_65 rfl (lv_at hl 1 rfl) ?_
        refine va_put (D := D) (ci := 1) (v := .int (nI (lvE b bc).2)) (ty := .int) (C := RX1) (T := TX1) (N := 10) hx hb hts hinX1 tyX1 tyX1_ok nmX1 hown hK hP hD hS (0) rfl rfl 5 (by decide) hf51 (fun _ h9 => h9) rfl (by decide +kernel) rfl rfl (Nat.le_of_ble_eq_true rfl) dX1_leaveOutArrived_66 (fun H locs hP hD hS => ?_)
        have hP : va_P D vwCl (eW E y t o q ((lvE b bc).1) c ((lvE b bc).2) n (ar + (nI bc - nI (lvE b bc).2)) fi re) H := hP
        have hD : va_D A (eW E y t o q ((lvE b bc).1) c ((lvE b bc).2) n (ar + (nI bc - nI (lvE b bc).2)) fi re) := hD
        exact zM_v hx hb hr hlocks hS dX1_leaveOutArrived_69 rfl hP
      · exact absurd (nI_le (a := bc) (b := bc) (by omega) (by omega)) c2
    · intro k hkk ihk H locs ls hP hD hS hl
      refine lv_iload_n hx hb dX1_leaveOutArrived_4 rfl (lv_at hl 0 rfl) ?_
      refine lv_aload_n hx hb dX1_leaveOutArrived_5 rfl (lv_at hl 2 rfl) ?_
      refine va_get (D := D) (ci := 1) (v := .int (nI bc)) (C := RX1) (T := TX1) (N := 10) hx hb hts hinX1 hown hK hP (0) rfl rfl 5 (by decide) hf51 (fun _ h9 => h9) rfl dX1_leaveOutArrived_6 ?_
      refine lv_icmp_ge (tgt := 49) hx hb dX1_leaveOutArrived_9 (by decide) (fun c3 => ?_) (fun c3 => ?_)
      · exact absurd c3 (nI_ge (a := k) (b := bc) (by omega) (by omega))
      · have d3 := Int32.not_le.mp c3
        refine lv_aload_n hx hb dX1_leaveOutArrived_12 rfl (lv_at hl 2 rfl) ?_
        refine lv_iload_n hx hb dX1_leaveOutArrived_13 rfl (lv_at hl 0 rfl) ?_
        refine zcRV (As := [.int (nI k)]) (rest := []) (st1 := [.ref (E (11 + k))]) ⟨hx, hb, hml, hown, hts⟩ (c_X1_bargeAt l D y E t o q ((lvE b k).1) c bc n ar fi re k (by omega) (by omega)) (cwV 1 hts gX1_leaveOutArrived_X1_bargeAt rfl rfl rfl (by decide +kernel) ⟨Nat.le_of_ble_eq_true rfl, Nat.le_of_ble_eq_true rfl⟩) hK hP (ci := 1) (q0 := 0) rfl rfl rfl rfl hl.1 rfl (lv_room (Nat.le_of_ble_eq_true rfl)) dX1_leaveOutArrived_14 ⟨Nat.le_of_ble_eq_true rfl, Nat.le_of_ble_eq_true rfl⟩ rfl ?_
        refine lv_astore_n (lv' := [(3, .ref (E (11 + k))), (2, .int (nI k)), (1, .int (nI (lvE b k).2)), (0, .ref (E 0))]) hx hb dX1_leaveOutArrived_17 rfl hl (by decide) rfl (fun ls hl => ?_)
        refine lv_aload_n hx hb dX1_leaveOutArrived_18 rfl (lv_at hl 0 rfl) ?_
        refine lv_ifnull hx hb dX1_leaveOutArrived_19 ?_
        refine lv_aload_n hx hb dX1_leaveOutArrived_22 rfl (lv_at hl 0 rfl) ?_
        refine va_get (D := D) (ci := 0) (v := .int ((((lvE b k).1) 2 k))) (C := RX0) (T := TX0) (N := 4) hx hb hts hinX0 hown hK hP (11 + k) (eW_b (by omega)) rfl 2 (by decide) hf123 (fun _ h9 => h9) rfl dX1_leaveOutArrived_23 ?_
        refine lv_bipush (v := 39) hx hb dX1_leaveOutArrived_26 (by decide) ?_
        refine lv_icmp_ge (tgt := 43) hx hb dX1_leaveOutArrived_28 (by decide) (fun c4 => ?_) (fun c4 => ?_)
        · have d4 := Int32.not_lt.mpr c4
          refine lv_iinc (v := nI (k + 1)) (lv' := [(2, .int (nI (k + 1))), (3, .ref (E (11 + k))), (1, .int (nI (lvE b k).2)), (0, .ref (E 0))]) hx hb dX1_leaveOutArrived_43 hl (k := 1) rfl (nI_1 _) (by decide) rfl (fun ls hl => ?_)
          refine lv_goto (tgt := 4) hx hb dX1_leaveOutArrived_46 (by decide) ?_
          have e5 : nI (lvE b (k + 1)).2 = nI (lvE b k).2 := by simp [lvE_s, lvS, c4, d4]
          have e6 : (lvE b (k + 1)).1 = (lvE b k).1 := by simp [lvE_s, lvS, c4, d4]
          refine ihk H locs ls ?_ ?_ hS ?_
          · first | exact hP | (simp only [e5, e6]; exact hP)
          · first | exact hD | (simp only [e5, e6]; exact hD)
          · first | exact lv_sub hl [0, 2, 3] rfl | (simp only [e5, e6]; exact lv_sub hl [0, 2, 3] rfl)
        · have d4 := Int32.not_le.mp c4
          refine lv_aload_n hx hb dX1_leaveOutArrived_31 rfl (lv_at hl 3 rfl) ?_
          refine lv_iload_n hx hb dX1_leaveOutArrived_32 rfl (lv_at hl 2 rfl) ?_
          rcases Nat.lt_or_eq_of_le (lvE_le b k) with hlt | heq
          · skip
            refine zcRV (As := [.int (nI (lvE b k).2)]) (rest := []) (st1 := [.ref (E (11 + ((lvE b k).2)))]) ⟨hx, hb, hml, hown, hts⟩ (c_X1_bargeAt l D y E t o q ((lvE b k).1) c bc n ar fi re ((lvE b k).2) (by omega) (by omega)) (cwV 1 hts gX1_leaveOutArrived_X1_bargeAt rfl rfl rfl (by decide +kernel) ⟨Nat.le_of_ble_eq_true rfl, Nat.le_of_ble_eq_true rfl⟩) hK hP (ci := 1) (q0 := 0) rfl rfl rfl rfl hl.1 rfl (lv_room (Nat.le_of_ble_eq_true rfl)) dX1_leaveOutArrived_33 ⟨Nat.le_of_ble_eq_true rfl, Nat.le_of_ble_eq_true rfl⟩ rfl ?_
            refine lv_aload_n hx hb dX1_leaveOutArrived_36 rfl (lv_at hl 0 rfl) ?_
            refine zcMS (As := [.ref (E (11 + ((lvE b k).2))), .ref (E (11 + k))]) (rest := []) (st1 := []) (cells1 := 0) (slots1 := 0) ⟨hx, hb, hml, hown, hts⟩ (c_X1_copyBarge l D y (E (11 + ((lvE b k).2))) (E (11 + k)) ((lvE b k).1) ((lvE b k).1) ((lvE b k).2) k _) (cwS 2 hts gX1_leaveOutArrived_X1_copyBarge rfl rfl rfl (by decide +kernel) ⟨Nat.le_of_ble_eq_true rfl, Nat.le_of_ble_eq_true rfl⟩) hK (z_sub_P hP (z_in_2 (i := 11 + ((lvE b k).2)) (j := 11 + k) (eW_b (by omega)) (eW_b (by omega)))) (z_D_2 hD (i := 11 + ((lvE b k).2)) (j := 11 + k) (eW_b (by omega)) (eW_b (by omega)) (by omega)) rfl hl.1 rfl (lv_room (Nat.le_of_ble_eq_true rfl)) dX1_leaveOutArrived_37 hS (z_sub_F hD hS hA (z_in_2 (i := 11 + ((lvE b k).2)) (j := 11 + k) (eW_b (by omega)) (eW_b (by omega)))) ⟨Nat.le_of_ble_eq_true rfl, Nat.le_of_ble_eq_true rfl⟩ rfl rfl rfl (fun H locs hP1 hz hfr hS => ?_)
            obtain ⟨hP, hD⟩ := z_two hP hD (i := 11 + ((lvE b k).2)) (j := 11 + k) (eW_b (by omega)) (eW_b (by omega)) (by omega) (eW_setb (by omega) (fun j i h => cpF_k _ _ _ _ _ _ h)) hP1 hfr
            refine lv_iinc (v := nI ((lvE b k).2 + 1)) (lv' := [(1, .int (nI ((lvE b k).2 + 1))), (3, .ref (E (11 + k))), (2, .int (nI k)), (0, .ref (E 0))]) hx hb dX1_leaveOutArrived_40 hl (k := 2) rfl (nI_1 _) (by decide) rfl (fun ls hl => ?_)
            refine lv_iinc (v := nI (k + 1)) (lv' := [(2, .int (nI (k + 1))), (1, .int (nI ((lvE b k).2 + 1))), (3, .ref (E (11 + k))), (0, .ref (E 0))]) hx hb dX1_leaveOutArrived_43 hl (k := 2) rfl (nI_1 _) (by decide) rfl (fun ls hl => ?_)
            refine lv_goto (tgt := 4) hx hb dX1_leaveOutArrived_46 (by decide) ?_
            have e8 : nI (lvE b (k + 1)).2 = nI ((lvE b k).2 + 1) := by simp [lvE_s, lvS, c4, d4]
            have e9 : (lvE b (k + 1)).1 = (cpF ((lvE b k).1) ((lvE b k).2) ((lvE b k).1) k) := by simp [lvE_s, lvS, c4, d4]
            refine ihk H locs ls ?_ ?_ hS ?_
            · first | exact hP | (simp only [e8, e9]; exact hP)
            · first | exact hD | (simp only [e8, e9]; exact hD)
            · first | exact lv_sub hl [0, 1, 3] rfl | (simp only [e8, e9]; exact lv_sub hl [0, 1, 3] rfl)
          · skip
            refine zt_i (x' := nI k) (by rw [heq]) ?_
            refine zcRV (As := [.int (nI k)]) (rest := []) (st1 := [.ref (E (11 + k))]) ⟨hx, hb, hml, hown, hts⟩ (c_X1_bargeAt l D y E t o q ((lvE b k).1) c bc n ar fi re k (by omega) (by omega)) (cwV 1 hts gX1_leaveOutArrived_X1_bargeAt rfl rfl rfl (by decide +kernel) ⟨Nat.le_of_ble_eq_true rfl, Nat.le_of_ble_eq_true rfl⟩) hK hP (ci := 1) (q0 := 0) rfl rfl rfl rfl hl.1 rfl (lv_room (Nat.le_of_ble_eq_true rfl)) dX1_leaveOutArrived_33 ⟨Nat.le_of_ble_eq_true rfl, Nat.le_of_ble_eq_true rfl⟩ rfl ?_
            refine lv_aload_n hx hb dX1_leaveOutArrived_36 rfl (lv_at hl 0 rfl) ?_
            refine zcMS (As := [.ref (E (11 + k)), .ref (E (11 + k))]) (rest := []) (st1 := []) (cells1 := 0) (slots1 := 0) ⟨hx, hb, hml, hown, hts⟩ (c_X1_copyBarge_self l D y (E (11 + k)) ((lvE b k).1) k _) (cwS 2 hts gX1_leaveOutArrived_X1_copyBarge rfl rfl rfl (by decide +kernel) ⟨Nat.le_of_ble_eq_true rfl, Nat.le_of_ble_eq_true rfl⟩) hK (z_sub_P hP (z_in_1 (k := 11 + k) (eW_b (by omega)))) z_D_1 rfl hl.1 rfl (lv_room (Nat.le_of_ble_eq_true rfl)) dX1_leaveOutArrived_37 hS (z_sub_F hD hS hA (z_in_1 (k := 11 + k) (eW_b (by omega)))) ⟨Nat.le_of_ble_eq_true rfl, Nat.le_of_ble_eq_true rfl⟩ rfl rfl rfl (fun H locs hP1 hz hfr hS => ?_)
            obtain ⟨hP, hD⟩ := z_one hP hD (k := 11 + k) (eW_b (by omega)) (eW_setb (by omega) (fun j i h => rfl)) hP1 hfr
            refine lv_iinc (v := nI ((lvE b k).2 + 1)) (lv' := [(1, .int (nI ((lvE b k).2 + 1))), (3, .ref (E (11 + k))), (2, .int (nI k)), (0, .ref (E 0))]) hx hb dX1_leaveOutArrived_40 hl (k := 2) rfl (nI_1 _) (by decide) rfl (fun ls hl => ?_)
            refine lv_iinc (v := nI (k + 1)) (lv' := [(2, .int (nI (k + 1))), (1, .int (nI ((lvE b k).2 + 1))), (3, .ref (E (11 + k))), (0, .ref (E 0))]) hx hb dX1_leaveOutArrived_43 hl (k := 2) rfl (nI_1 _) (by decide) rfl (fun ls hl => ?_)
            refine lv_goto (tgt := 4) hx hb dX1_leaveOutArrived_46 (by decide) ?_
            have e11 : nI (lvE b (k + 1)).2 = nI ((lvE b k).2 + 1) := by simp [lvE_s, lvS, c4, d4, heq, cpF_id]
            have e12 : (lvE b (k + 1)).1 = (lvE b k).1 := by simp [lvE_s, lvS, c4, d4, heq, cpF_id]
            refine ihk H locs ls ?_ ?_ hS ?_
            · first | exact hP | (simp only [e11, e12]; exact hP)
            · first | exact hD | (simp only [e11, e12]; exact hD)
            · first | exact lv_sub hl [0, 1, 3] rfl | (simp only [e11, e12]; exact lv_sub hl [0, 1, 3] rfl)
  exact loop1 0 (Nat.zero_le _) H locs ls hP hD hS (lv_sub hl [0, 1, 2] rfl)
set_option maxHeartbeats 4000000 in
set_option maxRecDepth 100000 in
theorem c_X1_goThroughNights (l : Launch) (D : va_G) (y : Nat → ClassId) (E : Nat → Nat) (t : Nat → Int32) (o : Nat → Nat) (q b : Fld) (c bc n : Nat) (ar fi re : Int32) (mm : Nat) (hc : c ≤ 6) (hbc : bc ≤ 5) (hn : n + mm < 2147483648) (ho : ∀ i, i < c → o i < c) (sz : Nat) : zM l yX1_goThroughNights wsX1_goThroughNights { frames := 4, cells := 0, slots := 0, locals := 89 } D y [.ref (E 0), .int (nI mm)] (eW E y t o q b c bc n ar fi re) sz (none) (eW E y t o ((nightsE t o c mm (q, b, bc, n, ar, fi, re)).1) ((nightsE t o c mm (q, b, bc, n, ar, fi, re)).2.1) c ((nightsE t o c mm (q, b, bc, n, ar, fi, re)).2.2.1) ((nightsE t o c mm (q, b, bc, n, ar, fi, re)).2.2.2.1) ((nightsE t o c mm (q, b, bc, n, ar, fi, re)).2.2.2.2.1) ((nightsE t o c mm (q, b, bc, n, ar, fi, re)).2.2.2.2.2.1) ((nightsE t o c mm (q, b, bc, n, ar, fi, re)).2.2.2.2.2.2)) 0 0 := by
  refine zM.ofH (cc := cX1_goThroughNights) (maxL := 3) (ret := none) (own := RX1) (by decide) rfl (Nat.le_of_ble_eq_true rfl) rfl ?_
  intro p e s m args below meth cd ls A H locs hx hb hr hml hown hts hlocks hP hK hD hA hS hl hin
  have hS0 := hS
  have hl : lv_has ls 3 [(0, .ref (E 0)), (1, .int (nI mm))] := hl
  have hf62 : (Cond.fieldLink RX1 62 "StakeWeirs$Estuary" "night" "I").before args s = true := hts _ (by decide +kernel)
  have hinX1 : ∀ w ∈ wsX10, w ∈ wsX1_goThroughNights := by decide +kernel
  refine lv_iconst (v := 0) hx hb dX1_goThroughNights_0 (by decide) ?_
  refine lv_istore_n (lv' := [(2, .int 0), (0, .ref (E 0)), (1, .int (nI mm))]) hx hb dX1_goThroughNights_1 rfl hl (by decide) rfl (fun ls hl => ?_)
  have loop1 : ∀ k, k ≤ mm → ∀ (H : Heap) (locs : List Loc) (ls : Array Slot), va_P D vwCl (eW E y t o ((nightsE t o c k (q, b, bc, n, ar, fi, re)).1) ((nightsE t o c k (q, b, bc, n, ar, fi, re)).2.1) c ((nightsE t o c k (q, b, bc, n, ar, fi, re)).2.2.1) ((nightsE t o c k (q, b, bc, n, ar, fi, re)).2.2.2.1) ((nightsE t o c k (q, b, bc, n, ar, fi, re)).2.2.2.2.1) ((nightsE t o c k (q, b, bc, n, ar, fi, re)).2.2.2.2.2.1) ((nightsE t o c k (q, b, bc, n, ar, fi, re)).2.2.2.2.2.2)) H → va_D A (eW E y t o ((nightsE t o c k (q, b, bc, n, ar, fi, re)).1) ((nightsE t o c k (q, b, bc, n, ar, fi, re)).2.1) c ((nightsE t o c k (q, b, bc, n, ar, fi, re)).2.2.1) ((nightsE t o c k (q, b, bc, n, ar, fi, re)).2.2.2.1) ((nightsE t o c k (q, b, bc, n, ar, fi, re)).2.2.2.2.1) ((nightsE t o c k (q, b, bc, n, ar, fi, re)).2.2.2.2.2.1) ((nightsE t o c k (q, b, bc, n, ar, fi, re)).2.2.2.2.2.2)) → va_S A s.heap H locs → lv_has ls 3 [(2, .int (nI k)), (0, .ref (E 0)), (1, .int (nI mm))] → W p l e ({ frames := 4, cells := 0, slots := 0, locals := 89 } : Room) s m args below meth cd H locs 0 0 (MQ below (zMQ (none) D (eW E y t o ((nightsE t o c mm (q, b, bc, n, ar, fi, re)).1) ((nightsE t o c mm (q, b, bc, n, ar, fi, re)).2.1) c ((nightsE t o c mm (q, b, bc, n, ar, fi, re)).2.2.1) ((nightsE t o c mm (q, b, bc, n, ar, fi, re)).2.2.2.1) ((nightsE t o c mm (q, b, bc, n, ar, fi, re)).2.2.2.2.1) ((nightsE t o c mm (q, b, bc, n, ar, fi, re)).2.2.2.2.2.1) ((nightsE t o c mm (q, b, bc, n, ar, fi, re)).2.2.2.2.2.2)) A) args s 0 0 A) (F0 m 2 ls []) := by
    refine down ?_ ?_
    · intro H locs ls hP hD hS hl
      refine lv_iload_n hx hb dX1_goThroughNights_2 rfl (lv_at hl 0 rfl) ?_
      refine lv_iload_n hx hb dX1_goThroughNights_3 rfl (lv_at hl 2 rfl) ?_
      refine lv_icmp_ge (tgt := 57) hx hb dX1_goThroughNights_4 (by decide) (fun c2 => ?_) (fun c2 => ?_)
      · have d2 := Int32.not_lt.mpr c2
        exact zM_v hx hb hr hlocks hS dX1_goThroughNights_57 rfl hP
      · exact absurd (nI_le (a := mm) (b := mm) (by omega) (by omega)) c2
    · intro k hkk ihk H locs ls hP hD hS hl
      have hnk : (nightsE t o c k (q, b, bc, n, ar, fi, re)).2.2.2.1 = n + k := nightsE_n t o c k (q, b, bc, n, ar, fi, re)
      have hbk : (nightsE t o c k (q, b, bc, n, ar, fi, re)).2.2.1 ≤ bc := nightsE_b t o c k (q, b, bc, n, ar, fi, re)
      refine lv_iload_n hx hb dX1_goThroughNights_2 rfl (lv_at hl 0 rfl) ?_
      refine lv_iload_n hx hb dX1_goThroughNights_3 rfl (lv_at hl 2 rfl) ?_
      refine lv_icmp_ge (tgt := 57) hx hb dX1_goThroughNights_4 (by decide) (fun c3 => ?_) (fun c3 => ?_)
      · exact absurd c3 (nI_ge (a := k) (b := mm) (by omega) (by omega))
      · have d3 := Int32.not_le.mp c3
        refine lv_aload_n hx hb dX1_goThroughNights_7 rfl (lv_at hl 1 rfl) ?_
        refine zcMV (As := []) (rest := []) (st1 := []) (cells1 := 0) (slots1 := 0) ⟨hx, hb, hml, hown, hts⟩ (c_X1_catchEels l D y E t o ((nightsE t o c k (q, b, bc, n, ar, fi, re)).1) ((nightsE t o c k (q, b, bc, n, ar, fi, re)).2.1) c ((nightsE t o c k (q, b, bc, n, ar, fi, re)).2.2.1) ((nightsE t o c k (q, b, bc, n, ar, fi, re)).2.2.2.1) ((nightsE t o c k (q, b, bc, n, ar, fi, re)).2.2.2.2.1) ((nightsE t o c k (q, b, bc, n, ar, fi, re)).2.2.2.2.2.1) ((nightsE t o c k (q, b, bc, n, ar, fi, re)).2.2.2.2.2.2)  (by omega) (by omega) ho _) (cwV 0 hts gX1_goThroughNights_X1_catchEels rfl rfl rfl (by decide +kernel) ⟨Nat.le_of_ble_eq_true rfl, Nat.le_of_ble_eq_true rfl⟩) hK hP (z_D_T hD) (ci := 1) (q0 := 0) rfl rfl rfl rfl hl.1 rfl (lv_room (Nat.le_of_ble_eq_true rfl)) dX1_goThroughNights_8 hS (z_sub_F hD hS hA z_in_r) ⟨Nat.le_of_ble_eq_true rfl, Nat.le_of_ble_eq_true rfl⟩ rfl rfl rfl (fun H locs hP1 hz hfr hS => ?_)
        have hD := z_D_adr hD (show (eW E y t o (catchE o ((nightsE t o c k (q, b, bc, n, ar, fi, re)).1) c (runI t ((nightsE t o c k (q, b, bc, n, ar, fi, re)).2.2.2.1))) ((nightsE t o c k (q, b, bc, n, ar, fi, re)).2.1) c ((nightsE t o c k (q, b, bc, n, ar, fi, re)).2.2.1) ((nightsE t o c k (q, b, bc, n, ar, fi, re)).2.2.2.1) ((nightsE t o c k (q, b, bc, n, ar, fi, re)).2.2.2.2.1) ((nightsE t o c k (q, b, bc, n, ar, fi, re)).2.2.2.2.2.1) ((nightsE t o c k (q, b, bc, n, ar, fi, re)).2.2.2.2.2.2)).map Prod.fst = _ from rfl)
        have hP := hP1
        refine lv_aload_n hx hb dX1_goThroughNights_11 rfl (lv_at hl 1 rfl) ?_
        refine zcMV (As := []) (rest := []) (st1 := []) (cells1 := 0) (slots1 := 0) ⟨hx, hb, hml, hown, hts⟩ (c_X1_moveBarges l D y E t o (catchE o ((nightsE t o c k (q, b, bc, n, ar, fi, re)).1) c (runI t ((nightsE t o c k (q, b, bc, n, ar, fi, re)).2.2.2.1))) ((nightsE t o c k (q, b, bc, n, ar, fi, re)).2.1) c ((nightsE t o c k (q, b, bc, n, ar, fi, re)).2.2.1) ((nightsE t o c k (q, b, bc, n, ar, fi, re)).2.2.2.1) ((nightsE t o c k (q, b, bc, n, ar, fi, re)).2.2.2.2.1) ((nightsE t o c k (q, b, bc, n, ar, fi, re)).2.2.2.2.2.1) ((nightsE t o c k (q, b, bc, n, ar, fi, re)).2.2.2.2.2.2)  (by omega) (by omega) _) (cwV 0 hts gX1_goThroughNights_X1_moveBarges rfl rfl rfl (by decide +kernel) ⟨Nat.le_of_ble_eq_true rfl, Nat.le_of_ble_eq_true rfl⟩) hK hP (z_D_T hD) (ci := 1) (q0 := 0) rfl rfl rfl rfl hl.1 rfl (lv_room (Nat.le_of_ble_eq_true rfl)) dX1_goThroughNights_12 hS (z_sub_F hD hS hA z_in_r) ⟨Nat.le_of_ble_eq_true rfl, Nat.le_of_ble_eq_true rfl⟩ rfl rfl rfl (fun H locs hP1 hz hfr hS => ?_)
        have hD := z_D_adr hD (show (eW E y t o ((movE (catchE o ((nightsE t o c k (q, b, bc, n, ar, fi, re)).1) c (runI t ((nightsE t o c k (q, b, bc, n, ar, fi, re)).2.2.2.1))) ((nightsE t o c k (q, b, bc, n, ar, fi, re)).2.1) c ((nightsE t o c k (q, b, bc, n, ar, fi, re)).2.2.1) ((nightsE t o c k (q, b, bc, n, ar, fi, re)).2.2.2.2.2.1)).1) ((movE (catchE o ((nightsE t o c k (q, b, bc, n, ar, fi, re)).1) c (runI t ((nightsE t o c k (q, b, bc, n, ar, fi, re)).2.2.2.1))) ((nightsE t o c k (q, b, bc, n, ar, fi, re)).2.1) c ((nightsE t o c k (q, b, bc, n, ar, fi, re)).2.2.1) ((nightsE t o c k (q, b, bc, n, ar, fi, re)).2.2.2.2.2.1)).2.1) c ((nightsE t o c k (q, b, bc, n, ar, fi, re)).2.2.1) ((nightsE t o c k (q, b, bc, n, ar, fi, re)).2.2.2.1) ((nightsE t o c k (q, b, bc, n, ar, fi, re)).2.2.2.2.1) ((movE (catchE o ((nightsE t o c k (q, b, bc, n, ar, fi, re)).1) c (runI t ((nightsE t o c k (q, b, bc, n, ar, fi, re)).2.2.2.1))) ((nightsE t o c k (q, b, bc, n, ar, fi, re)).2.1) c ((nightsE t o c k (q, b, bc, n, ar, fi, re)).2.2.1) ((nightsE t o c k (q, b, bc, n, ar, fi, re)).2.2.2.2.2.1)).2.2) ((nightsE t o c k (q, b, bc, n, ar, fi, re)).2.2.2.2.2.2)).map Prod.fst = _ from rfl)
        have hP := hP1
        refine lv_aload_n hx hb dX1_goThroughNights_15 rfl (lv_at hl 1 rfl) ?_
        refine zcMV (As := []) (rest := []) (st1 := []) (cells1 := 0) (slots1 := 0) ⟨hx, hb, hml, hown, hts⟩ (c_X1_leaveOutArrived l D y E t o ((movE (catchE o ((nightsE t o c k (q, b, bc, n, ar, fi, re)).1) c (runI t ((nightsE t o c k (q, b, bc, n, ar, fi, re)).2.2.2.1))) ((nightsE t o c k (q, b, bc, n, ar, fi, re)).2.1) c ((nightsE t o c k (q, b, bc, n, ar, fi, re)).2.2.1) ((nightsE t o c k (q, b, bc, n, ar, fi, re)).2.2.2.2.2.1)).1) ((movE (catchE o ((nightsE t o c k (q, b, bc, n, ar, fi, re)).1) c (runI t ((nightsE t o c k (q, b, bc, n, ar, fi, re)).2.2.2.1))) ((nightsE t o c k (q, b, bc, n, ar, fi, re)).2.1) c ((nightsE t o c k (q, b, bc, n, ar, fi, re)).2.2.1) ((nightsE t o c k (q, b, bc, n, ar, fi, re)).2.2.2.2.2.1)).2.1) c ((nightsE t o c k (q, b, bc, n, ar, fi, re)).2.2.1) ((nightsE t o c k (q, b, bc, n, ar, fi, re)).2.2.2.1) ((nightsE t o c k (q, b, bc, n, ar, fi, re)).2.2.2.2.1) ((movE (catchE o ((nightsE t o c k (q, b, bc, n, ar, fi, re)).1) c (runI t ((nightsE t o c k (q, b, bc, n, ar, fi, re)).2.2.2.1))) ((nightsE t o c k (q, b, bc, n, ar, fi, re)).2.1) c ((nightsE t o c k (q, b, bc, n, ar, fi, re)).2.2.1) ((nightsE t o c k (q, b, bc, n, ar, fi, re)).2.2.2.2.2.1)).2.2) ((nightsE t o c k (q, b, bc, n, ar, fi, re)).2.2.2.2.2.2)  (by omega) _) (cwV 0 hts gX1_goThroughNights_X1_leaveOutArrived rfl rfl rfl (by decide +kernel) ⟨Nat.le_of_ble_eq_true rfl, Nat.le_of_ble_eq_true rfl⟩) hK hP (z_D_T hD) (ci := 1) (q0 := 0) rfl rfl rfl rfl hl.1 rfl (lv_room (Nat.le_of_ble_eq_true rfl)) dX1_goThroughNights_16 hS (z_sub_F hD hS hA z_in_r) ⟨Nat.le_of_ble_eq_true rfl, Nat.le_of_ble_eq_true rfl⟩ rfl rfl rfl (fun H locs hP1 hz hfr hS => ?_)
        have hD := z_D_adr hD (show (eW E y t o ((movE (catchE o ((nightsE t o c k (q, b, bc, n, ar, fi, re)).1) c (runI t ((nightsE t o c k (q, b, bc, n, ar, fi, re)).2.2.2.1))) ((nightsE t o c k (q, b, bc, n, ar, fi, re)).2.1) c ((nightsE t o c k (q, b, bc, n, ar, fi, re)).2.2.1) ((nightsE t o c k (q, b, bc, n, ar, fi, re)).2.2.2.2.2.1)).1) ((lvE ((movE (catchE o ((nightsE t o c k (q, b, bc, n, ar, fi, re)).1) c (runI t ((nightsE t o c k (q, b, bc, n, ar, fi, re)).2.2.2.1))) ((nightsE t o c k (q, b, bc, n, ar, fi, re)).2.1) c ((nightsE t o c k (q, b, bc, n, ar, fi, re)).2.2.1) ((nightsE t o c k (q, b, bc, n, ar, fi, re)).2.2.2.2.2.1)).2.1) ((nightsE t o c k (q, b, bc, n, ar, fi, re)).2.2.1)).1) c ((lvE ((movE (catchE o ((nightsE t o c k (q, b, bc, n, ar, fi, re)).1) c (runI t ((nightsE t o c k (q, b, bc, n, ar, fi, re)).2.2.2.1))) ((nightsE t o c k (q, b, bc, n, ar, fi, re)).2.1) c ((nightsE t o c k (q, b, bc, n, ar, fi, re)).2.2.1) ((nightsE t o c k (q, b, bc, n, ar, fi, re)).2.2.2.2.2.1)).2.1) ((nightsE t o c k (q, b, bc, n, ar, fi, re)).2.2.1)).2) ((nightsE t o c k (q, b, bc, n, ar, fi, re)).2.2.2.1) ((nightsE t o c k (q, b, bc, n, ar, fi, re)).2.2.2.2.1 + (nI ((nightsE t o c k (q, b, bc, n, ar, fi, re)).2.2.1) - nI (lvE ((movE (catchE o ((nightsE t o c k (q, b, bc, n, ar, fi, re)).1) c (runI t ((nightsE t o c k (q, b, bc, n, ar, fi, re)).2.2.2.1))) ((nightsE t o c k (q, b, bc, n, ar, fi, re)).2.1) c ((nightsE t o c k (q, b, bc, n, ar, fi, re)).2.2.1) ((nightsE t o c k (q, b, bc, n, ar, fi, re)).2.2.2.2.2.1)).2.1) ((nightsE t o c k (q, b, bc, n, ar, fi, re)).2.2.1)).2)) ((movE (catchE o ((nightsE t o c k (q, b, bc, n, ar, fi, re)).1) c (runI t ((nightsE t o c k (q, b, bc, n, ar, fi, re)).2.2.2.1))) ((nightsE t o c k (q, b, bc, n, ar, fi, re)).2.1) c ((nightsE t o c k (q, b, bc, n, ar, fi, re)).2.2.1) ((nightsE t o c k (q, b, bc, n, ar, fi, re)).2.2.2.2.2.1)).2.2) ((nightsE t o c k (q, b, bc, n, ar, fi, re)).2.2.2.2.2.2)).map Prod.fst = _ from rfl)
        have hP := hP1
        refine lv_aload_n hx hb dX1_goThroughNights_19 rfl (lv_at hl 1 rfl) ?_
        refine zcMV (As := []) (rest := []) (st1 := []) (cells1 := 0) (slots1 := 0) ⟨hx, hb, hml, hown, hts⟩ (c_X1_rotWattle l D y E t o ((movE (catchE o ((nightsE t o c k (q, b, bc, n, ar, fi, re)).1) c (runI t ((nightsE t o c k (q, b, bc, n, ar, fi, re)).2.2.2.1))) ((nightsE t o c k (q, b, bc, n, ar, fi, re)).2.1) c ((nightsE t o c k (q, b, bc, n, ar, fi, re)).2.2.1) ((nightsE t o c k (q, b, bc, n, ar, fi, re)).2.2.2.2.2.1)).1) ((lvE ((movE (catchE o ((nightsE t o c k (q, b, bc, n, ar, fi, re)).1) c (runI t ((nightsE t o c k (q, b, bc, n, ar, fi, re)).2.2.2.1))) ((nightsE t o c k (q, b, bc, n, ar, fi, re)).2.1) c ((nightsE t o c k (q, b, bc, n, ar, fi, re)).2.2.1) ((nightsE t o c k (q, b, bc, n, ar, fi, re)).2.2.2.2.2.1)).2.1) ((nightsE t o c k (q, b, bc, n, ar, fi, re)).2.2.1)).1) c ((lvE ((movE (catchE o ((nightsE t o c k (q, b, bc, n, ar, fi, re)).1) c (runI t ((nightsE t o c k (q, b, bc, n, ar, fi, re)).2.2.2.1))) ((nightsE t o c k (q, b, bc, n, ar, fi, re)).2.1) c ((nightsE t o c k (q, b, bc, n, ar, fi, re)).2.2.1) ((nightsE t o c k (q, b, bc, n, ar, fi, re)).2.2.2.2.2.1)).2.1) ((nightsE t o c k (q, b, bc, n, ar, fi, re)).2.2.1)).2) ((nightsE t o c k (q, b, bc, n, ar, fi, re)).2.2.2.1) ((nightsE t o c k (q, b, bc, n, ar, fi, re)).2.2.2.2.1 + (nI ((nightsE t o c k (q, b, bc, n, ar, fi, re)).2.2.1) - nI (lvE ((movE (catchE o ((nightsE t o c k (q, b, bc, n, ar, fi, re)).1) c (runI t ((nightsE t o c k (q, b, bc, n, ar, fi, re)).2.2.2.1))) ((nightsE t o c k (q, b, bc, n, ar, fi, re)).2.1) c ((nightsE t o c k (q, b, bc, n, ar, fi, re)).2.2.1) ((nightsE t o c k (q, b, bc, n, ar, fi, re)).2.2.2.2.2.1)).2.1) ((nightsE t o c k (q, b, bc, n, ar, fi, re)).2.2.1)).2)) ((movE (catchE o ((nightsE t o c k (q, b, bc, n, ar, fi, re)).1) c (runI t ((nightsE t o c k (q, b, bc, n, ar, fi, re)).2.2.2.1))) ((nightsE t o c k (q, b, bc, n, ar, fi, re)).2.1) c ((nightsE t o c k (q, b, bc, n, ar, fi, re)).2.2.1) ((nightsE t o c k (q, b, bc, n, ar, fi, re)).2.2.2.2.2.1)).2.2) ((nightsE t o c k (q, b, bc, n, ar, fi, re)).2.2.2.2.2.2)  (by omega) (by omega) _) (cwV 0 hts gX1_goThroughNights_X1_rotWattle rfl rfl rfl (by decide +kernel) ⟨Nat.le_of_ble_eq_true rfl, Nat.le_of_ble_eq_true rfl⟩) hK hP (z_D_T hD) (ci := 1) (q0 := 0) rfl rfl rfl rfl hl.1 rfl (lv_room (Nat.le_of_ble_eq_true rfl)) dX1_goThroughNights_20 hS (z_sub_F hD hS hA z_in_r) ⟨Nat.le_of_ble_eq_true rfl, Nat.le_of_ble_eq_true rfl⟩ rfl rfl rfl (fun H locs hP1 hz hfr hS => ?_)
        have hD := z_D_adr hD (show (eW E y t o (rotE ((movE (catchE o ((nightsE t o c k (q, b, bc, n, ar, fi, re)).1) c (runI t ((nightsE t o c k (q, b, bc, n, ar, fi, re)).2.2.2.1))) ((nightsE t o c k (q, b, bc, n, ar, fi, re)).2.1) c ((nightsE t o c k (q, b, bc, n, ar, fi, re)).2.2.1) ((nightsE t o c k (q, b, bc, n, ar, fi, re)).2.2.2.2.2.1)).1) c ((nightsE t o c k (q, b, bc, n, ar, fi, re)).2.2.2.1)) ((lvE ((movE (catchE o ((nightsE t o c k (q, b, bc, n, ar, fi, re)).1) c (runI t ((nightsE t o c k (q, b, bc, n, ar, fi, re)).2.2.2.1))) ((nightsE t o c k (q, b, bc, n, ar, fi, re)).2.1) c ((nightsE t o c k (q, b, bc, n, ar, fi, re)).2.2.1) ((nightsE t o c k (q, b, bc, n, ar, fi, re)).2.2.2.2.2.1)).2.1) ((nightsE t o c k (q, b, bc, n, ar, fi, re)).2.2.1)).1) c ((lvE ((movE (catchE o ((nightsE t o c k (q, b, bc, n, ar, fi, re)).1) c (runI t ((nightsE t o c k (q, b, bc, n, ar, fi, re)).2.2.2.1))) ((nightsE t o c k (q, b, bc, n, ar, fi, re)).2.1) c ((nightsE t o c k (q, b, bc, n, ar, fi, re)).2.2.1) ((nightsE t o c k (q, b, bc, n, ar, fi, re)).2.2.2.2.2.1)).2.1) ((nightsE t o c k (q, b, bc, n, ar, fi, re)).2.2.1)).2) ((nightsE t o c k (q, b, bc, n, ar, fi, re)).2.2.2.1) ((nightsE t o c k (q, b, bc, n, ar, fi, re)).2.2.2.2.1 + (nI ((nightsE t o c k (q, b, bc, n, ar, fi, re)).2.2.1) - nI (lvE ((movE (catchE o ((nightsE t o c k (q, b, bc, n, ar, fi, re)).1) c (runI t ((nightsE t o c k (q, b, bc, n, ar, fi, re)).2.2.2.1))) ((nightsE t o c k (q, b, bc, n, ar, fi, re)).2.1) c ((nightsE t o c k (q, b, bc, n, ar, fi, re)).2.2.1) ((nightsE t o c k (q, b, bc, n, ar, fi, re)).2.2.2.2.2.1)).2.1) ((nightsE t o c k (q, b, bc, n, ar, fi, re)).2.2.1)).2)) ((movE (catchE o ((nightsE t o c k (q, b, bc, n, ar, fi, re)).1) c (runI t ((nightsE t o c k (q, b, bc, n, ar, fi, re)).2.2.2.1))) ((nightsE t o c k (q, b, bc, n, ar, fi, re)).2.1) c ((nightsE t o c k (q, b, bc, n, ar, fi, re)).2.2.1) ((nightsE t o c k (q, b, bc, n, ar, fi, re)).2.2.2.2.2.1)).2.2) ((nightsE t o c k (q, b, bc, n, ar, fi, re)).2.2.2.2.2.2)).map Prod.fst = _ from rfl)
        have hP := hP1
        refine lv_aload_n hx hb dX1_goThroughNights_23 rfl (lv_at hl 1 rfl) ?_
        refine va_get (D := D) (ci := 1) (v := .int (nI ((nightsE t o c k (q, b, bc, n, ar, fi, re)).2.2.2.1))) (C := RX1) (T := TX1) (N := 10) hx hb hts hinX1 hown hK hP (0) rfl rfl 6 (by decide) hf62 (fun _ h9 => h9) rfl dX1_goThroughNights_24 ?_
        refine lv_bipush (v := 14) hx hb dX1_goThroughNights_27 (by decide) ?_
        refine zcRS (As := [.int (nI ((nightsE t o c k (q, b, bc, n, ar, fi, re)).2.2.2.1)), .int 14]) (rest := []) (st1 := [.int (nI (((nightsE t o c k (q, b, bc, n, ar, fi, re)).2.2.2.1) % 14))]) ⟨hx, hb, hml, hown, hts⟩ (c_J9_floorMod_7cf53 l D y ((nightsE t o c k (q, b, bc, n, ar, fi, re)).2.2.2.1) 14 (by omega) (by omega) (by omega)) (va_cwS 2 hts gX1_goThroughNights_J9_floorMod_7cf53 rfl rfl rfl (by decide +kernel) ⟨Nat.le_of_ble_eq_true rfl, Nat.le_of_ble_eq_true rfl⟩) hK va_P_nil rfl hl.1 rfl (lv_room (Nat.le_of_ble_eq_true rfl)) dX1_goThroughNights_29 ⟨Nat.le_of_ble_eq_true rfl, Nat.le_of_ble_eq_true rfl⟩ rfl ?_
        refine lv_bipush (v := 13) hx hb dX1_goThroughNights_32 (by decide) ?_
        refine lv_icmp_ne (tgt := 41) hx hb dX1_goThroughNights_34 (by decide) (fun c4 => ?_) (fun c4 => ?_)
        · have d4 := c4
          have hm : ((nightsE t o c k (q, b, bc, n, ar, fi, re)).2.2.2.1 % 14 = 13) = False := eq_false (fun h9 => c4 (by rw [h9]; rfl))
          refine lv_aload_n hx hb dX1_goThroughNights_41 rfl (lv_at hl 1 rfl) ?_
          refine lv_dup hx hb dX1_goThroughNights_42 rfl ?_
          refine va_get (D := D) (ci := 1) (v := .int (nI ((nightsE t o c k (q, b, bc, n, ar, fi, re)).2.2.2.1))) (C := RX1) (T := TX1) (N := 10) hx hb hts hinX1 hown hK hP (0) rfl rfl 6 (by decide) hf62 (fun _ h9 => h9) rfl dX1_goThroughNights_43 ?_
          refine lv_iconst (v := 1) hx hb dX1_goThroughNights_46 (by decide) ?_
          refine lv_iadd hx hb dX1_goThroughNights_47 ?_
          refine zt_i (x' := nI (((nightsE t o c k (q, b, bc, n, ar, fi, re)).2.2.2.1) + 1)) (nI_1 _) ?_
          refine va_put (D := D) (ci := 1) (v := .int (nI (((nightsE t o c k (q, b, bc, n, ar, fi, re)).2.2.2.1) + 1))) (ty := .int) (C := RX1) (T := TX1) (N := 10) hx hb hts hinX1 tyX1 tyX1_ok nmX1 hown hK hP hD hS (0) rfl rfl 6 (by decide) hf62 (fun _ h9 => h9) rfl (by decide +kernel) rfl rfl (Nat.le_of_ble_eq_true rfl) dX1_goThroughNights_48 (fun H locs hP hD hS => ?_)
          have hP : va_P D vwCl (eW E y t o (rotE ((movE (catchE o ((nightsE t o c k (q, b, bc, n, ar, fi, re)).1) c (runI t ((nightsE t o c k (q, b, bc, n, ar, fi, re)).2.2.2.1))) ((nightsE t o c k (q, b, bc, n, ar, fi, re)).2.1) c ((nightsE t o c k (q, b, bc, n, ar, fi, re)).2.2.1) ((nightsE t o c k (q, b, bc, n, ar, fi, re)).2.2.2.2.2.1)).1) c ((nightsE t o c k (q, b, bc, n, ar, fi, re)).2.2.2.1)) ((lvE ((movE (catchE o ((nightsE t o c k (q, b, bc, n, ar, fi, re)).1) c (runI t ((nightsE t o c k (q, b, bc, n, ar, fi, re)).2.2.2.1))) ((nightsE t o c k (q, b, bc, n, ar, fi, re)).2.1) c ((nightsE t o c k (q, b, bc, n, ar, fi, re)).2.2.1) ((nightsE t o c k (q, b, bc, n, ar, fi, re)).2.2.2.2.2.1)).2.1) ((nightsE t o c k (q, b, bc, n, ar, fi, re)).2.2.1)).1) c ((lvE ((movE (catchE o ((nightsE t o c k (q, b, bc, n, ar, fi, re)).1) c (runI t ((nightsE t o c k (q, b, bc, n, ar, fi, re)).2.2.2.1))) ((nightsE t o c k (q, b, bc, n, ar, fi, re)).2.1) c ((nightsE t o c k (q, b, bc, n, ar, fi, re)).2.2.1) ((nightsE t o c k (q, b, bc, n, ar, fi, re)).2.2.2.2.2.1)).2.1) ((nightsE t o c k (q, b, bc, n, ar, fi, re)).2.2.1)).2) (((nightsE t o c k (q, b, bc, n, ar, fi, re)).2.2.2.1) + 1) ((nightsE t o c k (q, b, bc, n, ar, fi, re)).2.2.2.2.1 + (nI ((nightsE t o c k (q, b, bc, n, ar, fi, re)).2.2.1) - nI (lvE ((movE (catchE o ((nightsE t o c k (q, b, bc, n, ar, fi, re)).1) c (runI t ((nightsE t o c k (q, b, bc, n, ar, fi, re)).2.2.2.1))) ((nightsE t o c k (q, b, bc, n, ar, fi, re)).2.1) c ((nightsE t o c k (q, b, bc, n, ar, fi, re)).2.2.1) ((nightsE t o c k (q, b, bc, n, ar, fi, re)).2.2.2.2.2.1)).2.1) ((nightsE t o c k (q, b, bc, n, ar, fi, re)).2.2.1)).2)) ((movE (catchE o ((nightsE t o c k (q, b, bc, n, ar, fi, re)).1) c (runI t ((nightsE t o c k (q, b, bc, n, ar, fi, re)).2.2.2.1))) ((nightsE t o c k (q, b, bc, n, ar, fi, re)).2.1) c ((nightsE t o c k (q, b, bc, n, ar, fi, re)).2.2.1) ((nightsE t o c k (q, b, bc, n, ar, fi, re)).2.2.2.2.2.1)).2.2) ((nightsE t o c k (q, b, bc, n, ar, fi, re)).2.2.2.2.2.2)) H := hP
          have hD : va_D A (eW E y t o (rotE ((movE (catchE o ((nightsE t o c k (q, b, bc, n, ar, fi, re)).1) c (runI t ((nightsE t o c k (q, b, bc, n, ar, fi, re)).2.2.2.1))) ((nightsE t o c k (q, b, bc, n, ar, fi, re)).2.1) c ((nightsE t o c k (q, b, bc, n, ar, fi, re)).2.2.1) ((nightsE t o c k (q, b, bc, n, ar, fi, re)).2.2.2.2.2.1)).1) c ((nightsE t o c k (q, b, bc, n, ar, fi, re)).2.2.2.1)) ((lvE ((movE (catchE o ((nightsE t o c k (q, b, bc, n, ar, fi, re)).1) c (runI t ((nightsE t o c k (q, b, bc, n, ar, fi, re)).2.2.2.1))) ((nightsE t o c k (q, b, bc, n, ar, fi, re)).2.1) c ((nightsE t o c k (q, b, bc, n, ar, fi, re)).2.2.1) ((nightsE t o c k (q, b, bc, n, ar, fi, re)).2.2.2.2.2.1)).2.1) ((nightsE t o c k (q, b, bc, n, ar, fi, re)).2.2.1)).1) c ((lvE ((movE (catchE o ((nightsE t o c k (q, b, bc, n, ar, fi, re)).1) c (runI t ((nightsE t o c k (q, b, bc, n, ar, fi, re)).2.2.2.1))) ((nightsE t o c k (q, b, bc, n, ar, fi, re)).2.1) c ((nightsE t o c k (q, b, bc, n, ar, fi, re)).2.2.1) ((nightsE t o c k (q, b, bc, n, ar, fi, re)).2.2.2.2.2.1)).2.1) ((nightsE t o c k (q, b, bc, n, ar, fi, re)).2.2.1)).2) (((nightsE t o c k (q, b, bc, n, ar, fi, re)).2.2.2.1) + 1) ((nightsE t o c k (q, b, bc, n, ar, fi, re)).2.2.2.2.1 + (nI ((nightsE t o c k (q, b, bc, n, ar, fi, re)).2.2.1) - nI (lvE ((movE (catchE o ((nightsE t o c k (q, b, bc, n, ar, fi, re)).1) c (runI t ((nightsE t o c k (q, b, bc, n, ar, fi, re)).2.2.2.1))) ((nightsE t o c k (q, b, bc, n, ar, fi, re)).2.1) c ((nightsE t o c k (q, b, bc, n, ar, fi, re)).2.2.1) ((nightsE t o c k (q, b, bc, n, ar, fi, re)).2.2.2.2.2.1)).2.1) ((nightsE t o c k (q, b, bc, n, ar, fi, re)).2.2.1)).2)) ((movE (catchE o ((nightsE t o c k (q, b, bc, n, ar, fi, re)).1) c (runI t ((nightsE t o c k (q, b, bc, n, ar, fi, re)).2.2.2.1))) ((nightsE t o c k (q, b, bc, n, ar, fi, re)).2.1) c ((nightsE t o c k (q, b, bc, n, ar, fi, re)).2.2.1) ((nightsE t o c k (q, b, bc, n, ar, fi, re)).2.2.2.2.2.1)).2.2) ((nightsE t o c k (q, b, bc, n, ar, fi, re)).2.2.2.2.2.2)) := hD
          refine lv_iinc (v := nI (k + 1)) (lv' := [(2, .int (nI (k + 1))), (0, .ref (E 0)), (1, .int (nI mm))]) hx hb dX1_goThroughNights_51 hl (k := 0) rfl (nI_1 _) (by decide) rfl (fun ls hl => ?_)
          refine lv_goto (tgt := 2) hx hb dX1_goThroughNights_54 (by decide) ?_
          have e5 : (nightsE t o c (k + 1) (q, b, bc, n, ar, fi, re)).1 = (rotE ((movE (catchE o ((nightsE t o c k (q, b, bc, n, ar, fi, re)).1) c (runI t ((nightsE t o c k (q, b, bc, n, ar, fi, re)).2.2.2.1))) ((nightsE t o c k (q, b, bc, n, ar, fi, re)).2.1) c ((nightsE t o c k (q, b, bc, n, ar, fi, re)).2.2.1) ((nightsE t o c k (q, b, bc, n, ar, fi, re)).2.2.2.2.2.1)).1) c ((nightsE t o c k (q, b, bc, n, ar, fi, re)).2.2.2.1)) := by rw [nightsE_s]; simp only [nightE, hm, if_true, if_false] <;> rfl
          have e6 : (nightsE t o c (k + 1) (q, b, bc, n, ar, fi, re)).2.1 = (lvE ((movE (catchE o ((nightsE t o c k (q, b, bc, n, ar, fi, re)).1) c (runI t ((nightsE t o c k (q, b, bc, n, ar, fi, re)).2.2.2.1))) ((nightsE t o c k (q, b, bc, n, ar, fi, re)).2.1) c ((nightsE t o c k (q, b, bc, n, ar, fi, re)).2.2.1) ((nightsE t o c k (q, b, bc, n, ar, fi, re)).2.2.2.2.2.1)).2.1) ((nightsE t o c k (q, b, bc, n, ar, fi, re)).2.2.1)).1 := by rw [nightsE_s]; simp only [nightE, hm, if_true, if_false] <;> rfl
          have e7 : (nightsE t o c (k + 1) (q, b, bc, n, ar, fi, re)).2.2.1 = (lvE ((movE (catchE o ((nightsE t o c k (q, b, bc, n, ar, fi, re)).1) c (runI t ((nightsE t o c k (q, b, bc, n, ar, fi, re)).2.2.2.1))) ((nightsE t o c k (q, b, bc, n, ar, fi, re)).2.1) c ((nightsE t o c k (q, b, bc, n, ar, fi, re)).2.2.1) ((nightsE t o c k (q, b, bc, n, ar, fi, re)).2.2.2.2.2.1)).2.1) ((nightsE t o c k (q, b, bc, n, ar, fi, re)).2.2.1)).2 := by rw [nightsE_s]; simp only [nightE, hm, if_true, if_false] <;> rfl
          have e8 : (nightsE t o c (k + 1) (q, b, bc, n, ar, fi, re)).2.2.2.1 = (((nightsE t o c k (q, b, bc, n, ar, fi, re)).2.2.2.1) + 1) := by rw [nightsE_s]; simp only [nightE, hm, if_true, if_false] <;> rfl
          have e9 : (nightsE t o c (k + 1) (q, b, bc, n, ar, fi, re)).2.2.2.2.1 = ((nightsE t o c k (q, b, bc, n, ar, fi, re)).2.2.2.2.1 + (nI ((nightsE t o c k (q, b, bc, n, ar, fi, re)).2.2.1) - nI (lvE ((movE (catchE o ((nightsE t o c k (q, b, bc, n, ar, fi, re)).1) c (runI t ((nightsE t o c k (q, b, bc, n, ar, fi, re)).2.2.2.1))) ((nightsE t o c k (q, b, bc, n, ar, fi, re)).2.1) c ((nightsE t o c k (q, b, bc, n, ar, fi, re)).2.2.1) ((nightsE t o c k (q, b, bc, n, ar, fi, re)).2.2.2.2.2.1)).2.1) ((nightsE t o c k (q, b, bc, n, ar, fi, re)).2.2.1)).2)) := by rw [nightsE_s]; simp only [nightE, hm, if_true, if_false] <;> rfl
          have e10 : (nightsE t o c (k + 1) (q, b, bc, n, ar, fi, re)).2.2.2.2.2.1 = (movE (catchE o ((nightsE t o c k (q, b, bc, n, ar, fi, re)).1) c (runI t ((nightsE t o c k (q, b, bc, n, ar, fi, re)).2.2.2.1))) ((nightsE t o c k (q, b, bc, n, ar, fi, re)).2.1) c ((nightsE t o c k (q, b, bc, n, ar, fi, re)).2.2.1) ((nightsE t o c k (q, b, bc, n, ar, fi, re)).2.2.2.2.2.1)).2.2 := by rw [nightsE_s]; simp only [nightE, hm, if_true, if_false] <;> rfl
          have e11 : (nightsE t o c (k + 1) (q, b, bc, n, ar, fi, re)).2.2.2.2.2.2 = (nightsE t o c k (q, b, bc, n, ar, fi, re)).2.2.2.2.2.2 := by rw [nightsE_s]; simp only [nightE, hm, if_true, if_false] <;> rfl
          refine ihk H locs ls ?_ ?_ hS ?_
          · first | exact hP | (simp only [e5, e6, e7, e8, e9, e10, e11]; exact hP)
          · first | exact hD | (simp only [e5, e6, e7, e8, e9, e10, e11]; exact hD)
          · first | exact lv_sub hl [0, 1, 2] rfl | (simp only [e5, e6, e7, e8, e9, e10, e11]; exact lv_sub hl [0, 1, 2] rfl)
        · have d4 := c4
          have hm : ((nightsE t o c k (q, b, bc, n, ar, fi, re)).2.2.2.1 % 14 = 13) = True := eq_true ((nI_eq (a := (nightsE t o c k (q, b, bc, n, ar, fi, re)).2.2.2.1 % 14) (b := 13) (by omega) (by omega)).mp c4)
          refine lv_aload_n hx hb dX1_goThroughNights_37 rfl (lv_at hl 1 rfl) ?_
          refine zcMV (As := []) (rest := []) (st1 := []) (cells1 := 0) (slots1 := 0) ⟨hx, hb, hml, hown, hts⟩ (c_X1_collectRents l D y E t o (rotE ((movE (catchE o ((nightsE t o c k (q, b, bc, n, ar, fi, re)).1) c (runI t ((nightsE t o c k (q, b, bc, n, ar, fi, re)).2.2.2.1))) ((nightsE t o c k (q, b, bc, n, ar, fi, re)).2.1) c ((nightsE t o c k (q, b, bc, n, ar, fi, re)).2.2.1) ((nightsE t o c k (q, b, bc, n, ar, fi, re)).2.2.2.2.2.1)).1) c ((nightsE t o c k (q, b, bc, n, ar, fi, re)).2.2.2.1)) ((lvE ((movE (catchE o ((nightsE t o c k (q, b, bc, n, ar, fi, re)).1) c (runI t ((nightsE t o c k (q, b, bc, n, ar, fi, re)).2.2.2.1))) ((nightsE t o c k (q, b, bc, n, ar, fi, re)).2.1) c ((nightsE t o c k (q, b, bc, n, ar, fi, re)).2.2.1) ((nightsE t o c k (q, b, bc, n, ar, fi, re)).2.2.2.2.2.1)).2.1) ((nightsE t o c k (q, b, bc, n, ar, fi, re)).2.2.1)).1) c ((lvE ((movE (catchE o ((nightsE t o c k (q, b, bc, n, ar, fi, re)).1) c (runI t ((nightsE t o c k (q, b, bc, n, ar, fi, re)).2.2.2.1))) ((nightsE t o c k (q, b, bc, n, ar, fi, re)).2.1) c ((nightsE t o c k (q, b, bc, n, ar, fi, re)).2.2.1) ((nightsE t o c k (q, b, bc, n, ar, fi, re)).2.2.2.2.2.1)).2.1) ((nightsE t o c k (q, b, bc, n, ar, fi, re)).2.2.1)).2) ((nightsE t o c k (q, b, bc, n, ar, fi, re)).2.2.2.1) ((nightsE t o c k (q, b, bc, n, ar, fi, re)).2.2.2.2.1 + (nI ((nightsE t o c k (q, b, bc, n, ar, fi, re)).2.2.1) - nI (lvE ((movE (catchE o ((nightsE t o c k (q, b, bc, n, ar, fi, re)).1) c (runI t ((nightsE t o c k (q, b, bc, n, ar, fi, re)).2.2.2.1))) ((nightsE t o c k (q, b, bc, n, ar, fi, re)).2.1) c ((nightsE t o c k (q, b, bc, n, ar, fi, re)).2.2.1) ((nightsE t o c k (q, b, bc, n, ar, fi, re)).2.2.2.2.2.1)).2.1) ((nightsE t o c k (q, b, bc, n, ar, fi, re)).2.2.1)).2)) ((movE (catchE o ((nightsE t o c k (q, b, bc, n, ar, fi, re)).1) c (runI t ((nightsE t o c k (q, b, bc, n, ar, fi, re)).2.2.2.1))) ((nightsE t o c k (q, b, bc, n, ar, fi, re)).2.1) c ((nightsE t o c k (q, b, bc, n, ar, fi, re)).2.2.1) ((nightsE t o c k (q, b, bc, n, ar, fi, re)).2.2.2.2.2.1)).2.2) ((nightsE t o c k (q, b, bc, n, ar, fi, re)).2.2.2.2.2.2)  (by omega) _) (cwV 0 hts gX1_goThroughNights_X1_collectRents rfl rfl rfl (by decide +kernel) ⟨Nat.le_of_ble_eq_true rfl, Nat.le_of_ble_eq_true rfl⟩) hK hP (z_D_T hD) (ci := 1) (q0 := 0) rfl rfl rfl rfl hl.1 rfl (lv_room (Nat.le_of_ble_eq_true rfl)) dX1_goThroughNights_38 hS (z_sub_F hD hS hA z_in_r) ⟨Nat.le_of_ble_eq_true rfl, Nat.le_of_ble_eq_true rfl⟩ rfl rfl rfl (fun H locs hP1 hz hfr hS => ?_)
          have hD := z_D_adr hD (show (eW E y t o ((rentE (rotE ((movE (catchE o ((nightsE t o c k (q, b, bc, n, ar, fi, re)).1) c (runI t ((nightsE t o c k (q, b, bc, n, ar, fi, re)).2.2.2.1))) ((nightsE t o c k (q, b, bc, n, ar, fi, re)).2.1) c ((nightsE t o c k (q, b, bc, n, ar, fi, re)).2.2.1) ((nightsE t o c k (q, b, bc, n, ar, fi, re)).2.2.2.2.2.1)).1) c ((nightsE t o c k (q, b, bc, n, ar, fi, re)).2.2.2.1)) c ((nightsE t o c k (q, b, bc, n, ar, fi, re)).2.2.2.2.2.2)).1) ((lvE ((movE (catchE o ((nightsE t o c k (q, b, bc, n, ar, fi, re)).1) c (runI t ((nightsE t o c k (q, b, bc, n, ar, fi, re)).2.2.2.1))) ((nightsE t o c k (q, b, bc, n, ar, fi, re)).2.1) c ((nightsE t o c k (q, b, bc, n, ar, fi, re)).2.2.1) ((nightsE t o c k (q, b, bc, n, ar, fi, re)).2.2.2.2.2.1)).2.1) ((nightsE t o c k (q, b, bc, n, ar, fi, re)).2.2.1)).1) c ((lvE ((movE (catchE o ((nightsE t o c k (q, b, bc, n, ar, fi, re)).1) c (runI t ((nightsE t o c k (q, b, bc, n, ar, fi, re)).2.2.2.1))) ((nightsE t o c k (q, b, bc, n, ar, fi, re)).2.1) c ((nightsE t o c k (q, b, bc, n, ar, fi, re)).2.2.1) ((nightsE t o c k (q, b, bc, n, ar, fi, re)).2.2.2.2.2.1)).2.1) ((nightsE t o c k (q, b, bc, n, ar, fi, re)).2.2.1)).2) ((nightsE t o c k (q, b, bc, n, ar, fi, re)).2.2.2.1) ((nightsE t o c k (q, b, bc, n, ar, fi, re)).2.2.2.2.1 + (nI ((nightsE t o c k (q, b, bc, n, ar, fi, re)).2.2.1) - nI (lvE ((movE (catchE o ((nightsE t o c k (q, b, bc, n, ar, fi, re)).1) c (runI t ((nightsE t o c k (q, b, bc, n, ar, fi, re)).2.2.2.1))) ((nightsE t o c k (q, b, bc, n, ar, fi, re)).2.1) c ((nightsE t o c k (q, b, bc, n, ar, fi, re)).2.2.1) ((nightsE t o c k (q, b, bc, n, ar, fi, re)).2.2.2.2.2.1)).2.1) ((nightsE t o c k (q, b, bc, n, ar, fi, re)).2.2.1)).2)) ((movE (catchE o ((nightsE t o c k (q, b, bc, n, ar, fi, re)).1) c (runI t ((nightsE t o c k (q, b, bc, n, ar, fi, re)).2.2.2.1))) ((nightsE t o c k (q, b, bc, n, ar, fi, re)).2.1) c ((nightsE t o c k (q, b, bc, n, ar, fi, re)).2.2.1) ((nightsE t o c k (q, b, bc, n, ar, fi, re)).2.2.2.2.2.1)).2.2) ((rentE (rotE ((movE (catchE o ((nightsE t o c k (q, b, bc, n, ar, fi, re)).1) c (runI t ((nightsE t o c k (q, b, bc, n, ar, fi, re)).2.2.2.1))) ((nightsE t o c k (q, b, bc, n, ar, fi, re)).2.1) c ((nightsE t o c k (q, b, bc, n, ar, fi, re)).2.2.1) ((nightsE t o c k (q, b, bc, n, ar, fi, re)).2.2.2.2.2.1)).1) c ((nightsE t o c k (q, b, bc, n, ar, fi, re)).2.2.2.1)) c ((nightsE t o c k (q, b, bc, n, ar, fi, re)).2.2.2.2.2.2)).2)).map Prod.fst = _ from rfl)
          have hP := hP1
          refine lv_aload_n hx hb dX1_goThroughNights_41 rfl (lv_at hl 1 rfl) ?_
          refine lv_dup hx hb dX1_goThroughNights_42 rfl ?_
          refine va_get (D := D) (ci := 1) (v := .int (nI ((nightsE t o c k (q, b, bc, n, ar, fi, re)).2.2.2.1))) (C := RX1) (T := TX1) (N := 10) hx hb hts hinX1 hown hK hP (0) rfl rfl 6 (by decide) hf62 (fun _ h9 => h9) rfl dX1_goThroughNights_43 ?_
          refine lv_iconst (v := 1) hx hb dX1_goThroughNights_46 (by decide) ?_
          refine lv_iadd hx hb dX1_goThroughNights_47 ?_
          refine zt_i (x' := nI (((nightsE t o c k (q, b, bc, n, ar, fi, re)).2.2.2.1) + 1)) (nI_1 _) ?_
          refine va_put (D := D) (ci := 1) (v := .int (nI (((nightsE t o c k (q, b, bc, n, ar, fi, re)).2.2.2.1) + 1))) (ty := .int) (C := RX1) (T := TX1) (N := 10) hx hb hts hinX1 tyX1 tyX1_ok nmX1 hown hK hP hD hS (0) rfl rfl 6 (by decide) hf62 (fun _ h9 => h9) rfl (by decide +kernel) rfl rfl (Nat.le_of_ble_eq_true rfl) dX1_goThroughNights_48 (fun H locs hP hD hS => ?_)
          have hP : va_P D vwCl (eW E y t o ((rentE (rotE ((movE (catchE o ((nightsE t o c k (q, b, bc, n, ar, fi, re)).1) c (runI t ((nightsE t o c k (q, b, bc, n, ar, fi, re)).2.2.2.1))) ((nightsE t o c k (q, b, bc, n, ar, fi, re)).2.1) c ((nightsE t o c k (q, b, bc, n, ar, fi, re)).2.2.1) ((nightsE t o c k (q, b, bc, n, ar, fi, re)).2.2.2.2.2.1)).1) c ((nightsE t o c k (q, b, bc, n, ar, fi, re)).2.2.2.1)) c ((nightsE t o c k (q, b, bc, n, ar, fi, re)).2.2.2.2.2.2)).1) ((lvE ((movE (catchE o ((nightsE t o c k (q, b, bc, n, ar, fi, re)).1) c (runI t ((nightsE t o c k (q, b, bc, n, ar, fi, re)).2.2.2.1))) ((nightsE t o c k (q, b, bc, n, ar, fi, re)).2.1) c ((nightsE t o c k (q, b, bc, n, ar, fi, re)).2.2.1) ((nightsE t o c k (q, b, bc, n, ar, fi, re)).2.2.2.2.2.1)).2.1) ((nightsE t o c k (q, b, bc, n, ar, fi, re)).2.2.1)).1) c ((lvE ((movE (catchE o ((nightsE t o c k (q, b, bc, n, ar, fi, re)).1) c (runI t ((nightsE t o c k (q, b, bc, n, ar, fi, re)).2.2.2.1))) ((nightsE t o c k (q, b, bc, n, ar, fi, re)).2.1) c ((nightsE t o c k (q, b, bc, n, ar, fi, re)).2.2.1) ((nightsE t o c k (q, b, bc, n, ar, fi, re)).2.2.2.2.2.1)).2.1) ((nightsE t o c k (q, b, bc, n, ar, fi, re)).2.2.1)).2) (((nightsE t o c k (q, b, bc, n, ar, fi, re)).2.2.2.1) + 1) ((nightsE t o c k (q, b, bc, n, ar, fi, re)).2.2.2.2.1 + (nI ((nightsE t o c k (q, b, bc, n, ar, fi, re)).2.2.1) - nI (lvE ((movE (catchE o ((nightsE t o c k (q, b, bc, n, ar, fi, re)).1) c (runI t ((nightsE t o c k (q, b, bc, n, ar, fi, re)).2.2.2.1))) ((nightsE t o c k (q, b, bc, n, ar, fi, re)).2.1) c ((nightsE t o c k (q, b, bc, n, ar, fi, re)).2.2.1) ((nightsE t o c k (q, b, bc, n, ar, fi, re)).2.2.2.2.2.1)).2.1) ((nightsE t o c k (q, b, bc, n, ar, fi, re)).2.2.1)).2)) ((movE (catchE o ((nightsE t o c k (q, b, bc, n, ar, fi, re)).1) c (runI t ((nightsE t o c k (q, b, bc, n, ar, fi, re)).2.2.2.1))) ((nightsE t o c k (q, b, bc, n, ar, fi, re)).2.1) c ((nightsE t o c k (q, b, bc, n, ar, fi, re)).2.2.1) ((nightsE t o c k (q, b, bc, n, ar, fi, re)).2.2.2.2.2.1)).2.2) ((rentE (rotE ((movE (catchE o ((nightsE t o c k (q, b, bc, n, ar, fi, re)).1) c (runI t ((nightsE t o c k (q, b, bc, n, ar, fi, re)).2.2.2.1))) ((nightsE t o c k (q, b, bc, n, ar, fi, re)).2.1) c ((nightsE t o c k (q, b, bc, n, ar, fi, re)).2.2.1) ((nightsE t o c k (q, b, bc, n, ar, fi, re)).2.2.2.2.2.1)).1) c ((nightsE t o c k (q, b, bc, n, ar, fi, re)).2.2.2.1)) c ((nightsE t o c k (q, b, bc, n, ar, fi, re)).2.2.2.2.2.2)).2)) H := hP
          have hD : va_D A (eW E y t o ((rentE (rotE ((movE (catchE o ((nightsE t o c k (q, b, bc, n, ar, fi, re)).1) c (runI t ((nightsE t o c k (q, b, bc, n, ar, fi, re)).2.2.2.1))) ((nightsE t o c k (q, b, bc, n, ar, fi, re)).2.1) c ((nightsE t o c k (q, b, bc, n, ar, fi, re)).2.2.1) ((nightsE t o c k (q, b, bc, n, ar, fi, re)).2.2.2.2.2.1)).1) c ((nightsE t o c k (q, b, bc, n, ar, fi, re)).2.2.2.1)) c ((nightsE t o c k (q, b, bc, n, ar, fi, re)).2.2.2.2.2.2)).1) ((lvE ((movE (catchE o ((nightsE t o c k (q, b, bc, n, ar, fi, re)).1) c (runI t ((nightsE t o c k (q, b, bc, n, ar, fi, re)).2.2.2.1))) ((nightsE t o c k (q, b, bc, n, ar, fi, re)).2.1) c ((nightsE t o c k (q, b, bc, n, ar, fi, re)).2.2.1) ((nightsE t o c k (q, b, bc, n, ar, fi, re)).2.2.2.2.2.1)).2.1) ((nightsE t o c k (q, b, bc, n, ar, fi, re)).2.2.1)).1) c ((lvE ((movE (catchE o ((nightsE t o c k (q, b, bc, n, ar, fi, re)).1) c (runI t ((nightsE t o c k (q, b, bc, n, ar, fi, re)).2.2.2.1))) ((nightsE t o c k (q, b, bc, n, ar, fi, re)).2.1) c ((nightsE t o c k (q, b, bc, n, ar, fi, re)).2.2.1) ((nightsE t o c k (q, b, bc, n, ar, fi, re)).2.2.2.2.2.1)).2.1) ((nightsE t o c k (q, b, bc, n, ar, fi, re)).2.2.1)).2) (((nightsE t o c k (q, b, bc, n, ar, fi, re)).2.2.2.1) + 1) ((nightsE t o c k (q, b, bc, n, ar, fi, re)).2.2.2.2.1 + (nI ((nightsE t o c k (q, b, bc, n, ar, fi, re)).2.2.1) - nI (lvE ((movE (catchE o ((nightsE t o c k (q, b, bc, n, ar, fi, re)).1) c (runI t ((nightsE t o c k (q, b, bc, n, ar, fi, re)).2.2.2.1))) ((nightsE t o c k (q, b, bc, n, ar, fi, re)).2.1) c ((nightsE t o c k (q, b, bc, n, ar, fi, re)).2.2.1) ((nightsE t o c k (q, b, bc, n, ar, fi, re)).2.2.2.2.2.1)).2.1) ((nightsE t o c k (q, b, bc, n, ar, fi, re)).2.2.1)).2)) ((movE (catchE o ((nightsE t o c k (q, b, bc, n, ar, fi, re)).1) c (runI t ((nightsE t o c k (q, b, bc, n, ar, fi, re)).2.2.2.1))) ((nightsE t o c k (q, b, bc, n, ar, fi, re)).2.1) c ((nightsE t o c k (q, b, bc, n, ar, fi, re)).2.2.1) ((nightsE t o c k (q, b, bc, n, ar, fi, re)).2.2.2.2.2.1)).2.2) ((rentE (rotE ((movE (catchE o ((nightsE t o c k (q, b, bc, n, ar, fi, re)).1) c (runI t ((nightsE t o c k (q, b, bc, n, ar, fi, re)).2.2.2.1))) ((nightsE t o c k (q, b, bc, n, ar, fi, re)).2.1) c ((nightsE t o c k (q, b, bc, n, ar, fi, re)).2.2.1) ((nightsE t o c k (q, b, bc, n, ar, fi, re)).2.2.2.2.2.1)).1) c ((nightsE t o c k (q, b, bc, n, ar, fi, re)).2.2.2.1)) c ((nightsE t o c k (q, b, bc, n, ar, fi, re)).2.2.2.2.2.2)).2)) := hD
          refine lv_iinc (v := nI (k + 1)) (lv' := [(2, .int (nI (k + 1))), (0, .ref (E 0)), (1, .int (nI mm))]) hx hb dX1_goThroughNights_51 hl (k := 0) rfl (nI_1 _) (by decide) rfl (fun ls hl => ?_)
          refine lv_goto (tgt := 2) hx hb dX1_goThroughNights_54 (by decide) ?_
          have e12 : (nightsE t o c (k + 1) (q, b, bc, n, ar, fi, re)).1 = (rentE (rotE ((movE (catchE o ((nightsE t o c k (q, b, bc, n, ar, fi, re)).1) c (runI t ((nightsE t o c k (q, b, bc, n, ar, fi, re)).2.2.2.1))) ((nightsE t o c k (q, b, bc, n, ar, fi, re)).2.1) c ((nightsE t o c k (q, b, bc, n, ar, fi, re)).2.2.1) ((nightsE t o c k (q, b, bc, n, ar, fi, re)).2.2.2.2.2.1)).1) c ((nightsE t o c k (q, b, bc, n, ar, fi, re)).2.2.2.1)) c ((nightsE t o c k (q, b, bc, n, ar, fi, re)).2.2.2.2.2.2)).1 := by rw [nightsE_s]; simp only [nightE, hm, if_true, if_false] <;> rfl
          have e13 : (nightsE t o c (k + 1) (q, b, bc, n, ar, fi, re)).2.1 = (lvE ((movE (catchE o ((nightsE t o c k (q, b, bc, n, ar, fi, re)).1) c (runI t ((nightsE t o c k (q, b, bc, n, ar, fi, re)).2.2.2.1))) ((nightsE t o c k (q, b, bc, n, ar, fi, re)).2.1) c ((nightsE t o c k (q, b, bc, n, ar, fi, re)).2.2.1) ((nightsE t o c k (q, b, bc, n, ar, fi, re)).2.2.2.2.2.1)).2.1) ((nightsE t o c k (q, b, bc, n, ar, fi, re)).2.2.1)).1 := by rw [nightsE_s]; simp only [nightE, hm, if_true, if_false] <;> rfl
          have e14 : (nightsE t o c (k + 1) (q, b, bc, n, ar, fi, re)).2.2.1 = (lvE ((movE (catchE o ((nightsE t o c k (q, b, bc, n, ar, fi, re)).1) c (runI t ((nightsE t o c k (q, b, bc, n, ar, fi, re)).2.2.2.1))) ((nightsE t o c k (q, b, bc, n, ar, fi, re)).2.1) c ((nightsE t o c k (q, b, bc, n, ar, fi, re)).2.2.1) ((nightsE t o c k (q, b, bc, n, ar, fi, re)).2.2.2.2.2.1)).2.1) ((nightsE t o c k (q, b, bc, n, ar, fi, re)).2.2.1)).2 := by rw [nightsE_s]; simp only [nightE, hm, if_true, if_false] <;> rfl
          have e15 : (nightsE t o c (k + 1) (q, b, bc, n, ar, fi, re)).2.2.2.1 = (((nightsE t o c k (q, b, bc, n, ar, fi, re)).2.2.2.1) + 1) := by rw [nightsE_s]; simp only [nightE, hm, if_true, if_false] <;> rfl
          have e16 : (nightsE t o c (k + 1) (q, b, bc, n, ar, fi, re)).2.2.2.2.1 = ((nightsE t o c k (q, b, bc, n, ar, fi, re)).2.2.2.2.1 + (nI ((nightsE t o c k (q, b, bc, n, ar, fi, re)).2.2.1) - nI (lvE ((movE (catchE o ((nightsE t o c k (q, b, bc, n, ar, fi, re)).1) c (runI t ((nightsE t o c k (q, b, bc, n, ar, fi, re)).2.2.2.1))) ((nightsE t o c k (q, b, bc, n, ar, fi, re)).2.1) c ((nightsE t o c k (q, b, bc, n, ar, fi, re)).2.2.1) ((nightsE t o c k (q, b, bc, n, ar, fi, re)).2.2.2.2.2.1)).2.1) ((nightsE t o c k (q, b, bc, n, ar, fi, re)).2.2.1)).2)) := by rw [nightsE_s]; simp only [nightE, hm, if_true, if_false] <;> rfl
          have e17 : (nightsE t o c (k + 1) (q, b, bc, n, ar, fi, re)).2.2.2.2.2.1 = (movE (catchE o ((nightsE t o c k (q, b, bc, n, ar, fi, re)).1) c (runI t ((nightsE t o c k (q, b, bc, n, ar, fi, re)).2.2.2.1))) ((nightsE t o c k (q, b, bc, n, ar, fi, re)).2.1) c ((nightsE t o c k (q, b, bc, n, ar, fi, re)).2.2.1) ((nightsE t o c k (q, b, bc, n, ar, fi, re)).2.2.2.2.2.1)).2.2 := by rw [nightsE_s]; simp only [nightE, hm, if_true, if_false] <;> rfl
          have e18 : (nightsE t o c (k + 1) (q, b, bc, n, ar, fi, re)).2.2.2.2.2.2 = (rentE (rotE ((movE (catchE o ((nightsE t o c k (q, b, bc, n, ar, fi, re)).1) c (runI t ((nightsE t o c k (q, b, bc, n, ar, fi, re)).2.2.2.1))) ((nightsE t o c k (q, b, bc, n, ar, fi, re)).2.1) c ((nightsE t o c k (q, b, bc, n, ar, fi, re)).2.2.1) ((nightsE t o c k (q, b, bc, n, ar, fi, re)).2.2.2.2.2.1)).1) c ((nightsE t o c k (q, b, bc, n, ar, fi, re)).2.2.2.1)) c ((nightsE t o c k (q, b, bc, n, ar, fi, re)).2.2.2.2.2.2)).2 := by rw [nightsE_s]; simp only [nightE, hm, if_true, if_false] <;> rfl
          refine ihk H locs ls ?_ ?_ hS ?_
          · first | exact hP | (simp only [e12, e13, e14, e15, e16, e17, e18]; exact hP)
          · first | exact hD | (simp only [e12, e13, e14, e15, e16, e17, e18]; exact hD)
          · first | exact lv_sub hl [0, 1, 2] rfl | (simp only [e12, e13, e14, e15, e16, e17, e18]; exact lv_sub hl [0, 1, 2] rfl)
  exact loop1 0 (Nat.zero_le _) H locs ls hP hD hS (lv_sub hl [0, 1, 2] rfl)
end
section
def insE (q : Fld) (p : Int32) (num : Nat) : Nat → (Nat → Nat) → (Nat → Nat)
  | 0, o => va_up o 0 num
  | a + 1, o => if q 0 (o a) < p then insE q p num a (va_up o (a + 1) (o a)) else va_up o (a + 1) num
theorem insE_s (q : Fld) (p : Int32) (num a : Nat) (o : Nat → Nat) : insE q p num (a + 1) o = (if q 0 (o a) < p then insE q p num a (va_up o (a + 1) (o a)) else va_up o (a + 1) num) := rfl
theorem z_apl {l1 l2 : va_W} {k : Nat} {x : Nat × va_E} (h : l1[k]? = some x) : (l1 ++ l2)[k]? = some x := by
  rw [List.getElem?_append_left (List.getElem?_eq_some_iff.mp h).1]; exact h
theorem z_apr {l1 l2 : va_W} {k n : Nat} {x : Nat × va_E} (hl : l1.length = n) (h : l2[k]? = some x) : (l1 ++ l2)[n + k]? = some x := by
  rw [← hl, List.getElem?_append_right (Nat.le_add_right _ _), Nat.add_sub_cancel_left]; exact h
theorem z_setl {l1 l2 l3 : va_W} {k : Nat} {x : Nat × va_E} (hk : k < l1.length) (h : l1.set k x = l3) : (l1 ++ l2).set k x = l3 ++ l2 := by
  rw [List.set_append_left _ _ hk, h]
theorem va_up_cp {α : Type} (m : Nat) (f g : Nat → α) : va_up (cpN m f g) m (f m) = cpN (m + 1) f g := cpN_u m f g
set_option maxHeartbeats 4000000 in
set_option maxRecDepth 100000 in
theorem c_X1_putInOrder (l : Launch) (D : va_G) (y : Nat → ClassId) (E : Nat → Nat) (t : Nat → Int32) (o : Nat → Nat) (q b : Fld) (c bc n : Nat) (ar fi re : Int32) (x : Int32) (hc : c < 6) (ho : ∀ i, i < c → o i < c) (sz : Nat) : zM l yX1_putInOrder wsX1_putInOrder { frames := 2, cells := 0, slots := 0, locals := 45 } D y [.ref (E 0), .int (nI c), .int x] (eW E y t o q b c bc n ar fi re) sz (none) (eW E y t (insE q x c c o) q b c bc n ar fi re) 0 0 := by
  refine zM.ofH (cc := cX1_putInOrder) (maxL := 4) (ret := none) (own := RX1) (by decide) rfl (Nat.le_of_ble_eq_true rfl) rfl ?_
  intro p e s m args below meth cd ls A H locs hx hb hr hml hown hts hlocks hP hK hD hA hS hl hin
  have hS0 := hS
  have hl : lv_has ls 4 [(0, .ref (E 0)), (1, .int (nI c)), (2, .int x)] := hl
  have hf15 : (Cond.fieldLink RX1 15 "StakeWeirs$Estuary" "order" "[I").before args s = true := hts _ (by decide +kernel)
  have hinX1 : ∀ w ∈ wsX10, w ∈ wsX1_putInOrder := by decide +kernel
  refine lv_iload_n hx hb dX1_putInOrder_0 rfl (lv_at hl 1 rfl) ?_
  refine lv_istore_n (lv' := [(3, .int (nI c)), (0, .ref (E 0)), (1, .int (nI c)), (2, .int x)]) hx hb dX1_putInOrder_1 rfl hl (by decide) rfl (fun ls hl => ?_)
  have loop : ∀ a, a ≤ c → ∀ (o1 : Nat → Nat) (H : Heap) (locs : List Loc) (ls : Array Slot), insE q x c a o1 = insE q x c c o → (∀ i, i < c → o1 i < c) → va_P D vwCl (eW E y t o1 q b c bc n ar fi re) H → va_D A (eW E y t o1 q b c bc n ar fi re) → va_S A s.heap H locs → lv_has ls 4 [(3, .int (nI a)), (0, .ref (E 0)), (1, .int (nI c)), (2, .int x)] → W p l e ({ frames := 2, cells := 0, slots := 0, locals := 45 } : Room) s m args below meth cd H locs 0 0 (MQ below (zMQ (none) D (eW E y t (insE q x c c o) q b c bc n ar fi re) A) args s 0 0 A) (F0 m 2 ls []) := by
    intro a
    induction a with
    | zero =>
      intro ha o1 H locs ls hE ho1 hP hD hS hl
      refine lv_iload_n hx hb dX1_putInOrder_2 rfl (lv_at hl 0 rfl) ?_
      refine lv_if_le (tgt := 51) hx hb dX1_putInOrder_3 (by decide) (fun c1 => ?_) (fun c1 => ?_)
      · have d1 := Int32.not_lt.mpr c1
        refine lv_iload_n hx hb dX1_putInOrder_51 rfl (lv_at hl 0 rfl) ?_
        refine lv_if_lt (tgt := 71) hx hb dX1_putInOrder_52 (by decide) (fun c2 => ?_) (fun c2 => ?_)
        · exact absurd c2 (nI_nlt (a := 0) (b := 0) (by omega) (by omega))
        · have d2 := Int32.not_lt.mp c2
          refine lv_iload_n hx hb dX1_putInOrder_55 rfl (lv_at hl 0 rfl) ?_
          refine lv_aload_n hx hb dX1_putInOrder_56 rfl (lv_at hl 1 rfl) ?_
          refine va_get (D := D) (ci := 1) (v := .ref (E 3)) (C := RX1) (T := TX1) (N := 10) hx hb hts hinX1 hown hK hP (0) rfl rfl 2 (by decide) hf15 (fun _ h9 => h9) rfl dX1_putInOrder_57 ?_
          refine va_alen hx hb hK hP 3 0 (v := nI 6) rfl rfl rfl dX1_putInOrder_60 ?_
          refine lv_icmp_ge (tgt := 71) hx hb dX1_putInOrder_61 (by decide) (fun c3 => ?_) (fun c3 => ?_)
          · exact absurd c3 (nI_ge (a := 0) (b := 6) (by omega) (by omega))
          · have d3 := Int32.not_le.mp c3
            refine lv_aload_n hx hb dX1_putInOrder_64 rfl (lv_at hl 1 rfl) ?_
            refine va_get (D := D) (ci := 1) (v := .ref (E 3)) (C := RX1) (T := TX1) (N := 10) hx hb hts hinX1 hown hK hP (0) rfl rfl 2 (by decide) hf15 (fun _ h9 => h9) rfl dX1_putInOrder_65 ?_
            refine lv_iload_n hx hb dX1_putInOrder_68 rfl (lv_at hl 0 rfl) ?_
            refine lv_iload_n hx hb dX1_putInOrder_69 rfl (lv_at hl 2 rfl) ?_
            refine z_ast (x := nI c) hx hb hK hP hD hS 3 (f := fun i => nI (o1 i)) rfl 0 rfl (by omega) (by decide) (by rw [z_updO]) dX1_putInOrder_70 (fun H locs hP hD hS => ?_)
            have hP : va_P D vwCl (eW E y t (va_up o1 0 c) q b c bc n ar fi re) H := hP
            have hD : va_D A (eW E y t (va_up o1 0 c) q b c bc n ar fi re) := hD
            exact zM_v hx hb hr hlocks hS dX1_putInOrder_71 rfl (by rw [← hE]; exact hP)
      · exact absurd (nI_le (a := 0) (b := 0) (by omega) (by omega)) c1
    | succ a ih =>
      intro ha o1 H locs ls hE ho1 hP hD hS hl
      have hoa := ho1 a (by omega)
      refine lv_iload_n hx hb dX1_putInOrder_2 rfl (lv_at hl 0 rfl) ?_
      refine lv_if_le (tgt := 51) hx hb dX1_putInOrder_3 (by decide) (fun c4 => ?_) (fun c4 => ?_)
      · exact absurd c4 (nI_ge (a := 0) (b := (a + 1)) (by omega) (by omega))
      · have d4 := Int32.not_le.mp c4
        refine lv_iload_n hx hb dX1_putInOrder_6 rfl (lv_at hl 0 rfl) ?_
        refine lv_aload_n hx hb dX1_putInOrder_7 rfl (lv_at hl 1 rfl) ?_
        refine va_get (D := D) (ci := 1) (v := .ref (E 3)) (C := RX1) (T := TX1) (N := 10) hx hb hts hinX1 hown hK hP (0) rfl rfl 2 (by decide) hf15 (fun _ h9 => h9) rfl dX1_putInOrder_8 ?_
        refine va_alen hx hb hK hP 3 0 (v := nI 6) rfl rfl rfl dX1_putInOrder_11 ?_
        refine lv_icmp_ge (tgt := 51) hx hb dX1_putInOrder_12 (by decide) (fun c5 => ?_) (fun c5 => ?_)
        · exact absurd c5 (nI_ge (a := (a + 1)) (b := 6) (by omega) (by omega))
        · have d5 := Int32.not_le.mp c5
          refine lv_aload_n hx hb dX1_putInOrder_15 rfl (lv_at hl 1 rfl) ?_
          refine lv_aload_n hx hb dX1_putInOrder_16 rfl (lv_at hl 1 rfl) ?_
          refine va_get (D := D) (ci := 1) (v := .ref (E 3)) (C := RX1) (T := TX1) (N := 10) hx hb hts hinX1 hown hK hP (0) rfl rfl 2 (by decide) hf15 (fun _ h9 => h9) rfl dX1_putInOrder_17 ?_
          refine lv_iload_n hx hb dX1_putInOrder_20 rfl (lv_at hl 0 rfl) ?_
          refine lv_iconst (v := 1) hx hb dX1_putInOrder_21 (by decide) ?_
          refine lv_isub hx hb dX1_putInOrder_22 ?_
          refine zt_i (x' := nI a) (nI_pred _) ?_
          refine z_ald hx hb hK hP 3 (f := (fun i => nI (o1 i))) rfl a rfl (by omega) (by decide) dX1_putInOrder_23 ?_
          refine lv_iload_n hx hb dX1_putInOrder_24 rfl (lv_at hl 3 rfl) ?_
          refine zcRV (As := [.int (nI (o1 a)), .int x]) (rest := []) (st1 := [.int (zb (decide (q 0 (o1 a) < x)))]) ⟨hx, hb, hml, hown, hts⟩ (c_X1_isSeawardsOf l D y E t o1 q b c bc n ar fi re (o1 a) x (by omega) (by omega)) (cwV 2 hts gX1_putInOrder_X1_isSeawardsOf rfl rfl rfl (by decide +kernel) ⟨Nat.le_of_ble_eq_true rfl, Nat.le_of_ble_eq_true rfl⟩) hK hP (ci := 1) (q0 := 0) rfl rfl rfl rfl hl.1 rfl (lv_room (Nat.le_of_ble_eq_true rfl)) dX1_putInOrder_25 ⟨Nat.le_of_ble_eq_true rfl, Nat.le_of_ble_eq_true rfl⟩ rfl ?_
          refine lv_if_eq (tgt := 51) hx hb dX1_putInOrder_28 (by decide) (fun c6 => ?_) (fun c6 => ?_)
          · have c6 : decide (q 0 (o1 a) < x) = false := zb_f c6
            refine lv_iload_n hx hb dX1_putInOrder_51 rfl (lv_at hl 0 rfl) ?_
            refine lv_if_lt (tgt := 71) hx hb dX1_putInOrder_52 (by decide) (fun c7 => ?_) (fun c7 => ?_)
            · exact absurd c7 (nI_nlt (a := (a + 1)) (b := 0) (by omega) (by omega))
            · have d7 := Int32.not_lt.mp c7
              refine lv_iload_n hx hb dX1_putInOrder_55 rfl (lv_at hl 0 rfl) ?_
              refine lv_aload_n hx hb dX1_putInOrder_56 rfl (lv_at hl 1 rfl) ?_
              refine va_get (D := D) (ci := 1) (v := .ref (E 3)) (C := RX1) (T := TX1) (N := 10) hx hb hts hinX1 hown hK hP (0) rfl rfl 2 (by decide) hf15 (fun _ h9 => h9) rfl dX1_putInOrder_57 ?_
              refine va_alen hx hb hK hP 3 0 (v := nI 6) rfl rfl rfl dX1_putInOrder_60 ?_
              refine lv_icmp_ge (tgt := 71) hx hb dX1_putInOrder_61 (by decide) (fun c8 => ?_) (fun c8 => ?_)
              · exact absurd c8 (nI_ge (a := (a + 1)) (b := 6) (by omega) (by omega))
              · have d8 := Int32.not_le.mp c8
                refine lv_aload_n hx hb dX1_putInOrder_64 rfl (lv_at hl 1 rfl) ?_
                refine va_get (D := D) (ci := 1) (v := .ref (E 3)) (C := RX1) (T := TX1) (N := 10) hx hb hts hinX1 hown hK hP (0) rfl rfl 2 (by decide) hf15 (fun _ h9 => h9) rfl dX1_putInOrder_65 ?_
                refine lv_iload_n hx hb dX1_putInOrder_68 rfl (lv_at hl 0 rfl) ?_
                refine lv_iload_n hx hb dX1_putInOrder_69 rfl (lv_at hl 2 rfl) ?_
                refine z_ast (x := nI c) hx hb hK hP hD hS 3 (f := fun i => nI (o1 i)) rfl (a + 1) rfl (by omega) (by decide) (by rw [z_updO]) dX1_putInOrder_70 (fun H locs hP hD hS => ?_)
                have hP : va_P D vwCl (eW E y t (va_up o1 (a + 1) c) q b c bc n ar fi re) H := hP
                have hD : va_D A (eW E y t (va_up o1 (a + 1) c) q b c bc n ar fi re) := hD
                exact zM_v hx hb hr hlocks hS dX1_putInOrder_71 rfl (by rw [← hE, insE_s, if_neg (of_decide_eq_false c6)]; exact hP)
          · have c6 : decide (q 0 (o1 a) < x) = true := zb_t c6
            refine lv_aload_n hx hb dX1_putInOrder_31 rfl (lv_at hl 1 rfl) ?_
            refine va_get (D := D) (ci := 1) (v := .ref (E 3)) (C := RX1) (T := TX1) (N := 10) hx hb hts hinX1 hown hK hP (0) rfl rfl 2 (by decide) hf15 (fun _ h9 => h9) rfl dX1_putInOrder_32 ?_
            refine lv_iload_n hx hb dX1_putInOrder_35 rfl (lv_at hl 0 rfl) ?_
            refine lv_aload_n hx hb dX1_putInOrder_36 rfl (lv_at hl 1 rfl) ?_
            refine va_get (D := D) (ci := 1) (v := .ref (E 3)) (C := RX1) (T := TX1) (N := 10) hx hb hts hinX1 hown hK hP (0) rfl rfl 2 (by decide) hf15 (fun _ h9 => h9) rfl dX1_putInOrder_37 ?_
            refine lv_iload_n hx hb dX1_putInOrder_40 rfl (lv_at hl 0 rfl) ?_
            refine lv_iconst (v := 1) hx hb dX1_putInOrder_41 (by decide) ?_
            refine lv_isub hx hb dX1_putInOrder_42 ?_
            refine zt_i (x' := nI a) (nI_pred _) ?_
            refine z_ald hx hb hK hP 3 (f := (fun i => nI (o1 i))) rfl a rfl (by omega) (by decide) dX1_putInOrder_43 ?_
            refine z_ast (x := nI (o1 a)) hx hb hK hP hD hS 3 (f := fun i => nI (o1 i)) rfl (a + 1) rfl (by omega) (by decide) (by rw [z_updO]) dX1_putInOrder_44 (fun H locs hP hD hS => ?_)
            have hP : va_P D vwCl (eW E y t (va_up o1 (a + 1) (o1 a)) q b c bc n ar fi re) H := hP
            have hD : va_D A (eW E y t (va_up o1 (a + 1) (o1 a)) q b c bc n ar fi re) := hD
            refine lv_iinc (v := nI a) (lv' := [(3, .int (nI a)), (0, .ref (E 0)), (1, .int (nI c)), (2, .int x)]) hx hb dX1_putInOrder_45 hl (k := 0) rfl (pk_m1 _) (by decide) rfl (fun ls hl => ?_)
            refine lv_goto (tgt := 2) hx hb dX1_putInOrder_48 (by decide) ?_
            refine ih (by omega) _ H locs ls ?_ ?_ hP hD hS (lv_sub hl [0, 1, 2, 3] rfl)
            · rw [← hE, insE_s, if_pos (of_decide_eq_true c6)]
            · intro i hi; unfold va_up; split; exact hoa; exact ho1 i hi
  exact loop c (Nat.le_refl _) o H locs ls rfl ho hP hD hS (lv_sub hl [0, 1, 2, 3] rfl)
set_option maxHeartbeats 4000000 in
set_option maxRecDepth 100000 in
theorem c_X1_addWeir (l : Launch) (D : va_G) (y : Nat → ClassId) (E : Nat → Nat) (t : Nat → Int32) (o : Nat → Nat) (q b : Fld) (c bc n : Nat) (ar fi re : Int32) (p0 p1 p2 : Int32) (hc : c < 6) (ho : ∀ i, i < c → o i < c) (sz : Nat) : zM l yX1_addWeir wsX1_addWeir { frames := 3, cells := 0, slots := 0, locals := 68 } D y [.ref (E 0), .int p0, .int p1, .int p2] (eW E y t o q b c bc n ar fi re) sz (some (.int (nI c))) (eW E y t (insE q p0 c c o) (newW q c p0 p1 p2) b (c + 1) bc n ar fi re) 0 0 := by
  refine zM.ofH (cc := cX1_addWeir) (maxL := 6) (ret := (some .int)) (own := RX1) (by decide) rfl (Nat.le_of_ble_eq_true rfl) rfl ?_
  intro p e s m args below meth cd ls A H locs hx hb hr hml hown hts hlocks hP hK hD hA hS hl hin
  have hS0 := hS
  have hl : lv_has ls 6 [(0, .ref (E 0)), (1, .int p0), (2, .int p1), (3, .int p2)] := hl
  have hf39 : (Cond.fieldLink RX1 39 "StakeWeirs$Estuary" "weirCount" "I").before args s = true := hts _ (by decide +kernel)
  have hinX1 : ∀ w ∈ wsX10, w ∈ wsX1_addWeir := by decide +kernel
  refine lv_aload_n hx hb dX1_addWeir_0 rfl (lv_at hl 0 rfl) ?_
  refine va_get (D := D) (ci := 1) (v := .int (nI c)) (C := RX1) (T := TX1) (N := 10) hx hb hts hinX1 hown hK hP (0) rfl rfl 4 (by decide) hf39 (fun _ h9 => h9) rfl dX1_addWeir_1 ?_
  refine lv_istore (lv' := [(4, .int (nI c)), (0, .ref (E 0)), (1, .int p0), (2, .int p1), (3, .int p2)]) hx hb dX1_addWeir_4 hl (by decide) rfl (fun ls hl => ?_)
  refine lv_aload_n hx hb dX1_addWeir_6 rfl (lv_at hl 1 rfl) ?_
  refine lv_iload hx hb dX1_addWeir_7 (lv_at hl 0 rfl) ?_
  refine lv_iload_n hx hb dX1_addWeir_9 rfl (lv_at hl 2 rfl) ?_
  refine zcMV (As := [.int (nI c), .int p0]) (rest := []) (st1 := []) (cells1 := 0) (slots1 := 0) ⟨hx, hb, hml, hown, hts⟩ (c_X1_putInOrder l D y E t o q b c bc n ar fi re p0 (by omega) ho _) (cwV 2 hts gX1_addWeir_X1_putInOrder rfl rfl rfl (by decide +kernel) ⟨Nat.le_of_ble_eq_true rfl, Nat.le_of_ble_eq_true rfl⟩) hK hP (z_D_T hD) (ci := 1) (q0 := 0) rfl rfl rfl rfl hl.1 rfl (lv_room (Nat.le_of_ble_eq_true rfl)) dX1_addWeir_10 hS (z_sub_F hD hS hA z_in_r) ⟨Nat.le_of_ble_eq_true rfl, Nat.le_of_ble_eq_true rfl⟩ rfl rfl rfl (fun H locs hP1 hz hfr hS => ?_)
  have hD := z_D_adr hD (show (eW E y t (insE q p0 c c o) q b c bc n ar fi re).map Prod.fst = _ from rfl)
  have hP := hP1
  refine lv_aload_n hx hb dX1_addWeir_13 rfl (lv_at hl 1 rfl) ?_
  refine lv_dup hx hb dX1_addWeir_14 rfl ?_
  refine va_get (D := D) (ci := 1) (v := .int (nI c)) (C := RX1) (T := TX1) (N := 10) hx hb hts hinX1 hown hK hP (0) rfl rfl 4 (by decide) hf39 (fun _ h9 => h9) rfl dX1_addWeir_15 ?_
  refine lv_iconst (v := 1) hx hb dX1_addWeir_18 (by decide) ?_
  refine lv_iadd hx hb dX1_addWeir_19 ?_
  refine zt_i (x' := nI (c + 1)) (nI_1 _) ?_
  refine va_put (D := D) (ci := 1) (v := .int (nI (c + 1))) (ty := .int) (C := RX1) (T := TX1) (N := 10) hx hb hts hinX1 tyX1 tyX1_ok nmX1 hown hK hP hD hS (0) rfl rfl 4 (by decide) hf39 (fun _ h9 => h9) rfl (by decide +kernel) rfl rfl (Nat.le_of_ble_eq_true rfl) dX1_addWeir_20 (fun H locs hP hD hS => ?_)
  have hP : va_P D vwCl (eW E y t (insE q p0 c c o) q b (c + 1) bc n ar fi re) H := hP
  have hD : va_D A (eW E y t (insE q p0 c c o) q b (c + 1) bc n ar fi re) := hD
  refine lv_aload_n hx hb dX1_addWeir_23 rfl (lv_at hl 1 rfl) ?_
  refine lv_iload hx hb dX1_addWeir_24 (lv_at hl 0 rfl) ?_
  refine zcRV (As := [.int (nI c)]) (rest := []) (st1 := [.ref (E (5 + c))]) ⟨hx, hb, hml, hown, hts⟩ (c_X1_weirAt l D y E t (insE q p0 c c o) q b (c + 1) bc n ar fi re c (by omega) (by omega)) (cwV 1 hts gX1_addWeir_X1_weirAt rfl rfl rfl (by decide +kernel) ⟨Nat.le_of_ble_eq_true rfl, Nat.le_of_ble_eq_true rfl⟩) hK hP (ci := 1) (q0 := 0) rfl rfl rfl rfl hl.1 rfl (lv_room (Nat.le_of_ble_eq_true rfl)) dX1_addWeir_26 ⟨Nat.le_of_ble_eq_true rfl, Nat.le_of_ble_eq_true rfl⟩ rfl ?_
  refine lv_astore (lv' := [(5, .ref (E (5 + c))), (4, .int (nI c)), (0, .ref (E 0)), (1, .int p0), (2, .int p1), (3, .int p2)]) hx hb dX1_addWeir_29 hl (by decide) rfl (fun ls hl => ?_)
  refine lv_aload hx hb dX1_addWeir_31 (lv_at hl 0 rfl) ?_
  refine lv_ifnull hx hb dX1_addWeir_33 ?_
  refine lv_aload hx hb dX1_addWeir_36 (lv_at hl 0 rfl) ?_
  refine lv_iload_n hx hb dX1_addWeir_38 rfl (lv_at hl 3 rfl) ?_
  refine lv_iload_n hx hb dX1_addWeir_39 rfl (lv_at hl 4 rfl) ?_
  refine lv_iload_n hx hb dX1_addWeir_40 rfl (lv_at hl 5 rfl) ?_
  refine zcMV (As := [.int p0, .int p1, .int p2]) (rest := []) (st1 := []) (cells1 := 0) (slots1 := 0) ⟨hx, hb, hml, hown, hts⟩ (c_X2_makeNew l D y (E (5 + c)) q c p0 p1 p2 _) (cwV 3 hts gX1_addWeir_X2_makeNew rfl rfl rfl (by decide +kernel) ⟨Nat.le_of_ble_eq_true rfl, Nat.le_of_ble_eq_true rfl⟩) hK (z_sub_P hP (z_in_1 (k := 5 + c) (eW_w (by omega)))) z_D_1 (ci := 2) (q0 := 0) rfl rfl rfl rfl hl.1 rfl (lv_room (Nat.le_of_ble_eq_true rfl)) dX1_addWeir_41 hS (z_sub_F hD hS hA (z_in_1 (k := 5 + c) (eW_w (by omega)))) ⟨Nat.le_of_ble_eq_true rfl, Nat.le_of_ble_eq_true rfl⟩ rfl rfl rfl (fun H locs hP1 hz hfr hS => ?_)
  obtain ⟨hP, hD⟩ := z_one hP hD (k := 5 + c) (eW_w (by omega)) (eW_setw (by omega) (fun j i h => newW_k _ _ _ _ _ _ _ h)) hP1 hfr
  have hP : va_P D vwCl (eW E y t (insE q p0 c c o) (newW q c p0 p1 p2) b (c + 1) bc n ar fi re) H := hP
  have hD : va_D A (eW E y t (insE q p0 c c o) (newW q c p0 p1 p2) b (c + 1) bc n ar fi re) := hD
  refine lv_iload hx hb dX1_addWeir_44 (lv_at hl 1 rfl) ?_
  exact zM_i hx hb hr hlocks hS dX1_addWeir_46 rfl hP
set_option maxHeartbeats 4000000 in
set_option maxRecDepth 100000 in
theorem c_X1_addBarge (l : Launch) (D : va_G) (y : Nat → ClassId) (E : Nat → Nat) (t : Nat → Int32) (o : Nat → Nat) (q b : Fld) (c bc n : Nat) (ar fi re : Int32) (x : Int32) (hbc : bc < 5) (sz : Nat) : zM l yX1_addBarge wsX1_addBarge { frames := 1, cells := 0, slots := 0, locals := 22 } D y [.ref (E 0), .int x] (eW E y t o q b c bc n ar fi re) sz (some (.int (nI bc))) (eW E y t o q (newB b bc (ar + nI bc) x) c (bc + 1) n ar fi re) 0 0 := by
  refine zM.ofH (cc := cX1_addBarge) (maxL := 4) (ret := (some .int)) (own := RX1) (by decide) rfl (Nat.le_of_ble_eq_true rfl) rfl ?_
  intro p e s m args below meth cd ls A H locs hx hb hr hml hown hts hlocks hP hK hD hA hS hl hin
  have hS0 := hS
  have hl : lv_has ls 4 [(0, .ref (E 0)), (1, .int x)] := hl
  have hf51 : (Cond.fieldLink RX1 51 "StakeWeirs$Estuary" "bargeCount" "I").before args s = true := hts _ (by decide +kernel)
  have hinX1 : ∀ w ∈ wsX10, w ∈ wsX1_addBarge := by decide +kernel
  have hf65 : (Cond.fieldLink RX1 65 "StakeWeirs$Estuary" "arrived" "I").before args s = true := hts _ (by decide +kernel)
  refine lv_aload_n hx hb dX1_addBarge_0 rfl (lv_at hl 0 rfl) ?_
  refine va_get (D := D) (ci := 1) (v := .int (nI bc)) (C := RX1) (T := TX1) (N := 10) hx hb hts hinX1 hown hK hP (0) rfl rfl 5 (by decide) hf51 (fun _ h9 => h9) rfl dX1_addBarge_1 ?_
  refine lv_istore_n (lv' := [(2, .int (nI bc)), (0, .ref (E 0)), (1, .int x)]) hx hb dX1_addBarge_4 rfl hl (by decide) rfl (fun ls hl => ?_)
  refine lv_aload_n hx hb dX1_addBarge_5 rfl (lv_at hl 1 rfl) ?_
  refine lv_dup hx hb dX1_addBarge_6 rfl ?_
  refine va_get (D := D) (ci := 1) (v := .int (nI bc)) (C := RX1) (T := TX1) (N := 10) hx hb hts hinX1 hown hK hP (0) rfl rfl 5 (by decide) hf51 (fun _ h9 => h9) rfl dX1_addBarge_7 ?_
  refine lv_iconst (v := 1) hx hb dX1_addBarge_10 (by decide) ?_
  refine lv_iadd hx hb dX1_addBarge_11 ?_
  refine zt_i (x' := nI (bc + 1)) (nI_1 _) ?_
  refine va_put (D := D) (ci := 1) (v := .int (nI (bc + 1))) (ty := .int) (C := RX1) (T := TX1) (N := 10) hx hb hts hinX1 tyX1 tyX1_ok nmX1 hown hK hP hD hS (0) rfl rfl 5 (by decide) hf51 (fun _ h9 => h9) rfl (by decide +kernel) rfl rfl (Nat.le_of_ble_eq_true rfl) dX1_addBarge_12 (fun H locs hP hD hS => ?_)
  have hP : va_P D vwCl (eW E y t o q b c (bc + 1) n ar fi re) H := hP
  have hD : va_D A (eW E y t o q b c (bc + 1) n ar fi re) := hD
  refine lv_aload_n hx hb dX1_addBarge_15 rfl (lv_at hl 1 rfl) ?_
  refine lv_iload_n hx hb dX1_addBarge_16 rfl (lv_at hl 0 rfl) ?_
  refine zcRV (As := [.int (nI bc)]) (rest := []) (st1 := [.ref (E (11 + bc))]) ⟨hx, hb, hml, hown, hts⟩ (c_X1_bargeAt l D y E t o q b c (bc + 1) n ar fi re bc (by omega) (by omega)) (cwV 1 hts gX1_addBarge_X1_bargeAt rfl rfl rfl (by decide +kernel) ⟨Nat.le_of_ble_eq_true rfl, Nat.le_of_ble_eq_true rfl⟩) hK hP (ci := 1) (q0 := 0) rfl rfl rfl rfl hl.1 rfl (lv_room (Nat.le_of_ble_eq_true rfl)) dX1_addBarge_17 ⟨Nat.le_of_ble_eq_true rfl, Nat.le_of_ble_eq_true rfl⟩ rfl ?_
  refine lv_astore_n (lv' := [(3, .ref (E (11 + bc))), (2, .int (nI bc)), (0, .ref (E 0)), (1, .int x)]) hx hb dX1_addBarge_20 rfl hl (by decide) rfl (fun ls hl => ?_)
  refine lv_aload_n hx hb dX1_addBarge_21 rfl (lv_at hl 0 rfl) ?_
  refine lv_ifnull hx hb dX1_addBarge_22 ?_
  refine lv_aload_n hx hb dX1_addBarge_25 rfl (lv_at hl 0 rfl) ?_
  refine lv_aload_n hx hb dX1_addBarge_26 rfl (lv_at hl 2 rfl) ?_
  refine va_get (D := D) (ci := 1) (v := .int ar) (C := RX1) (T := TX1) (N := 10) hx hb hts hinX1 hown hK hP (0) rfl rfl 7 (by decide) hf65 (fun _ h9 => h9) rfl dX1_addBarge_27 ?_
  refine lv_iload_n hx hb dX1_addBarge_30 rfl (lv_at hl 1 rfl) ?_
  refine lv_iadd hx hb dX1_addBarge_31 ?_
  refine lv_iload_n hx hb dX1_addBarge_32 rfl (lv_at hl 3 rfl) ?_
  refine zcMV (As := [.int ((ar + nI bc)), .int x]) (rest := []) (st1 := []) (cells1 := 0) (slots1 := 0) ⟨hx, hb, hml, hown, hts⟩ (c_X0_makeNew l D y (E (11 + bc)) b bc (ar + nI bc) x _) (cwV 2 hts gX1_addBarge_X0_makeNew rfl rfl rfl (by decide +kernel) ⟨Nat.le_of_ble_eq_true rfl, Nat.le_of_ble_eq_true rfl⟩) hK (z_sub_P hP (z_in_1 (k := 11 + bc) (eW_b (by omega)))) z_D_1 (ci := 0) (q0 := 0) rfl rfl rfl rfl hl.1 rfl (lv_room (Nat.le_of_ble_eq_true rfl)) dX1_addBarge_33 hS (z_sub_F hD hS hA (z_in_1 (k := 11 + bc) (eW_b (by omega)))) ⟨Nat.le_of_ble_eq_true rfl, Nat.le_of_ble_eq_true rfl⟩ rfl rfl rfl (fun H locs hP1 hz hfr hS => ?_)
  obtain ⟨hP, hD⟩ := z_one hP hD (k := 11 + bc) (eW_b (by omega)) (eW_setb (by omega) (fun j i h => newB_k _ _ _ _ _ _ h)) hP1 hfr
  have hP : va_P D vwCl (eW E y t o q (newB b bc (ar + nI bc) x) c (bc + 1) n ar fi re) H := hP
  have hD : va_D A (eW E y t o q (newB b bc (ar + nI bc) x) c (bc + 1) n ar fi re) := hD
  refine lv_iload_n hx hb dX1_addBarge_36 rfl (lv_at hl 1 rfl) ?_
  exact zM_i hx hb hr hlocks hS dX1_addBarge_37 rfl hP
set_option maxHeartbeats 4000000 in
set_option maxRecDepth 100000 in
theorem c_X1_copyFrom (l : Launch) (D : va_G) (y : Nat → ClassId) (E : Nat → Nat) (t : Nat → Int32) (o : Nat → Nat) (q b : Fld) (c bc n : Nat) (ar fi re : Int32) (E2 : Nat → Nat) (tv : Nat → Int32) (ov : Nat → Nat) (qv bv : Fld) (cv bcv nv : Nat) (arv fiv rev : Int32) (hc : cv ≤ 6) (hbc : bcv ≤ 5) (h01 : ∀ i, i < cv → qv 6 i = 0 ∨ qv 6 i = 1) (sz : Nat) : zM l yX1_copyFrom wsX1_copyFrom { frames := 2, cells := 0, slots := 0, locals := 42 } D y [.ref (E 0), .ref (E2 0)] (eW E y t o q b c bc n ar fi re ++ eW E2 y tv ov qv bv cv bcv nv arv fiv rev) sz (none) (eW E y (cpN 7 tv t) (cpN 6 ov o) (cp2 cv qv q) (cp2 bcv bv b) cv bcv nv arv fiv rev ++ eW E2 y tv ov qv bv cv bcv nv arv fiv rev) 0 0 := by
  refine zM.ofH (cc := cX1_copyFrom) (maxL := 3) (ret := none) (own := RX1) (by decide) rfl (Nat.le_of_ble_eq_true rfl) rfl ?_
  intro p e s m args below meth cd ls A H locs hx hb hr hml hown hts hlocks hP hK hD hA hS hl hin
  have hS0 := hS
  have hl : lv_has ls 3 [(0, .ref (E 0)), (1, .ref (E2 0))] := hl
  have hf9 : (Cond.fieldLink RX1 9 "StakeWeirs$Estuary" "table" "[I").before args s = true := hts _ (by decide +kernel)
  have hinX1 : ∀ w ∈ wsX10, w ∈ wsX1_copyFrom := by decide +kernel
  have hf15 : (Cond.fieldLink RX1 15 "StakeWeirs$Estuary" "order" "[I").before args s = true := hts _ (by decide +kernel)
  have hf39 : (Cond.fieldLink RX1 39 "StakeWeirs$Estuary" "weirCount" "I").before args s = true := hts _ (by decide +kernel)
  have hf51 : (Cond.fieldLink RX1 51 "StakeWeirs$Estuary" "bargeCount" "I").before args s = true := hts _ (by decide +kernel)
  have hf62 : (Cond.fieldLink RX1 62 "StakeWeirs$Estuary" "night" "I").before args s = true := hts _ (by decide +kernel)
  have hf65 : (Cond.fieldLink RX1 65 "StakeWeirs$Estuary" "arrived" "I").before args s = true := hts _ (by decide +kernel)
  have hf68 : (Cond.fieldLink RX1 68 "StakeWeirs$Estuary" "fines" "I").before args s = true := hts _ (by decide +kernel)
  have hf71 : (Cond.fieldLink RX1 71 "StakeWeirs$Estuary" "rents" "I").before args s = true := hts _ (by decide +kernel)
  refine lv_iconst (v := 0) hx hb dX1_copyFrom_0 (by decide) ?_
  refine lv_istore_n (lv' := [(2, .int 0), (0, .ref (E 0)), (1, .ref (E2 0))]) hx hb dX1_copyFrom_1 rfl hl (by decide) rfl (fun ls hl => ?_)
  have hP : va_P D vwCl (eW E y (cpN 0 tv t) o q b c bc n ar fi re ++ eW E2 y tv ov qv bv cv bcv nv arv fiv rev) H := by rw [cpN_0]; exact hP
  have hD : va_D A (eW E y (cpN 0 tv t) o q b c bc n ar fi re ++ eW E2 y tv ov qv bv cv bcv nv arv fiv rev) := by rw [cpN_0]; exact hD
  have loop1 : ∀ k, k ≤ 7 → ∀ (H : Heap) (locs : List Loc) (ls : Array Slot), va_P D vwCl (eW E y (cpN k tv t) o q b c bc n ar fi re ++ eW E2 y tv ov qv bv cv bcv nv arv fiv rev) H → va_D A (eW E y (cpN k tv t) o q b c bc n ar fi re ++ eW E2 y tv ov qv bv cv bcv nv arv fiv rev) → va_S A s.heap H locs → lv_has ls 3 [(2, .int (nI k)), (0, .ref (E 0)), (1, .ref (E2 0))] → W p l e ({ frames := 2, cells := 0, slots := 0, locals := 42 } : Room) s m args below meth cd H locs 0 0 (MQ below (zMQ (none) D (eW E y (cpN 7 tv t) (cpN 6 ov o) (cp2 cv qv q) (cp2 bcv bv b) cv bcv nv arv fiv rev ++ eW E2 y tv ov qv bv cv bcv nv arv fiv rev) A) args s 0 0 A) (F0 m 2 ls []) := by
    refine down ?_ ?_
    · intro H locs ls hP hD hS hl
      refine lv_iload_n hx hb dX1_copyFrom_2 rfl (lv_at hl 0 rfl) ?_
      refine lv_aload_n hx hb dX1_copyFrom_3 rfl (lv_at hl 1 rfl) ?_
      refine va_get (D := D) (ci := 1) (v := .ref (E 1)) (C := RX1) (T := TX1) (N := 10) hx hb hts hinX1 hown hK hP (0) (z_apl rfl) rfl 0 (by decide) hf9 (fun _ h9 => h9) rfl dX1_copyFrom_4 ?_
      refine va_alen hx hb hK hP 1 0 (v := nI 7) rfl rfl rfl dX1_copyFrom_7 ?_
      refine lv_icmp_ge (tgt := 28) hx hb dX1_copyFrom_8 (by decide) (fun c2 => ?_) (fun c2 => ?_)
      · have d2 := Int32.not_lt.mpr c2
        refine lv_iconst (v := 0) hx hb dX1_copyFrom_28 (by decide) ?_
        refine lv_istore_n (lv' := [(2, .int 0), (0, .ref (E 0)), (1, .ref (E2 0))]) hx hb dX1_copyFrom_29 rfl hl (by decide) rfl (fun ls hl => ?_)
        have hP : va_P D vwCl (eW E y (cpN 7 tv t) (cpN 0 ov o) q b c bc n ar fi re ++ eW E2 y tv ov qv bv cv bcv nv arv fiv rev) H := by rw [cpN_0]; exact hP
        have hD : va_D A (eW E y (cpN 7 tv t) (cpN 0 ov o) q b c bc n ar fi re ++ eW E2 y tv ov qv bv cv bcv nv arv fiv rev) := by rw [cpN_0]; exact hD
        have loop3 : ∀ k, k ≤ 6 → ∀ (H : Heap) (locs : List Loc) (ls : Array Slot), va_P D vwCl (eW E y (cpN 7 tv t) (cpN k ov o) q b c bc n ar fi re ++ eW E2 y tv ov qv bv cv bcv nv arv fiv rev) H → va_D A (eW E y (cpN 7 tv t) (cpN k ov o) q b c bc n ar fi re ++ eW E2 y tv ov qv bv cv bcv nv arv fiv rev) → va_S A s.heap H locs → lv_has ls 3 [(2, .int (nI k)), (0, .ref (E 0)), (1, .ref (E2 0))] → W p l e ({ frames := 2, cells := 0, slots := 0, locals := 42 } : Room) s m args below meth cd H locs 0 0 (MQ below (zMQ (none) D (eW E y (cpN 7 tv t) (cpN 6 ov o) (cp2 cv qv q) (cp2 bcv bv b) cv bcv nv arv fiv rev ++ eW E2 y tv ov qv bv cv bcv nv arv fiv rev) A) args s 0 0 A) (F0 m 30 ls []) := by
          refine down ?_ ?_
          · intro H locs ls hP hD hS hl
            refine lv_iload_n hx hb dX1_copyFrom_30 rfl (lv_at hl 0 rfl) ?_
            refine lv_aload_n hx hb dX1_copyFrom_31 rfl (lv_at hl 1 rfl) ?_
            refine va_get (D := D) (ci := 1) (v := .ref (E 3)) (C := RX1) (T := TX1) (N := 10) hx hb hts hinX1 hown hK hP (0) (z_apl rfl) rfl 2 (by decide) hf15 (fun _ h9 => h9) rfl dX1_copyFrom_32 ?_
            refine va_alen hx hb hK hP 3 0 (v := nI 6) rfl rfl rfl dX1_copyFrom_35 ?_
            refine lv_icmp_ge (tgt := 56) hx hb dX1_copyFrom_36 (by decide) (fun c4 => ?_) (fun c4 => ?_)
            · have d4 := Int32.not_lt.mpr c4
              refine lv_aload_n hx hb dX1_copyFrom_56 rfl (lv_at hl 1 rfl) ?_
              refine lv_aload_n hx hb dX1_copyFrom_57 rfl (lv_at hl 2 rfl) ?_
              refine va_get (D := D) (ci := 1) (v := .int (nI cv)) (C := RX1) (T := TX1) (N := 10) hx hb hts hinX1 hown hK hP (16 + (0)) (z_apr rfl rfl) rfl 4 (by decide) hf39 (fun _ h9 => h9) rfl dX1_copyFrom_58 ?_
              refine va_put (D := D) (ci := 1) (v := .int (nI cv)) (ty := .int) (C := RX1) (T := TX1) (N := 10) hx hb hts hinX1 tyX1 tyX1_ok nmX1 hown hK hP hD hS (0) (z_apl rfl) rfl 4 (by decide) hf39 (fun _ h9 => h9) rfl (by decide +kernel) rfl rfl (Nat.le_of_ble_eq_true rfl) dX1_copyFrom_61 (fun H locs hP hD hS => ?_)
              have hP : va_P D vwCl (eW E y (cpN 7 tv t) (cpN 6 ov o) q b cv bc n ar fi re ++ eW E2 y tv ov qv bv cv bcv nv arv fiv rev) H := hP
              have hD : va_D A (eW E y (cpN 7 tv t) (cpN 6 ov o) q b cv bc n ar fi re ++ eW E2 y tv ov qv bv cv bcv nv arv fiv rev) := hD
              refine lv_iconst (v := 0) hx hb dX1_copyFrom_64 (by decide) ?_
              refine lv_istore_n (lv' := [(2, .int 0), (0, .ref (E 0)), (1, .ref (E2 0))]) hx hb dX1_copyFrom_65 rfl hl (by decide) rfl (fun ls hl => ?_)
              have hP : va_P D vwCl (eW E y (cpN 7 tv t) (cpN 6 ov o) (cp2 0 qv q) b cv bc n ar fi re ++ eW E2 y tv ov qv bv cv bcv nv arv fiv rev) H := by rw [cp2_0]; exact hP
              have hD : va_D A (eW E y (cpN 7 tv t) (cpN 6 ov o) (cp2 0 qv q) b cv bc n ar fi re ++ eW E2 y tv ov qv bv cv bcv nv arv fiv rev) := by rw [cp2_0]; exact hD
              have loop5 : ∀ k, k ≤ cv → ∀ (H : Heap) (locs : List Loc) (ls : Array Slot), va_P D vwCl (eW E y (cpN 7 tv t) (cpN 6 ov o) (cp2 k qv q) b cv bc n ar fi re ++ eW E2 y tv ov qv bv cv bcv nv arv fiv rev) H → va_D A (eW E y (cpN 7 tv t) (cpN 6 ov o) (cp2 k qv q) b cv bc n ar fi re ++ eW E2 y tv ov qv bv cv bcv nv arv fiv rev) → va_S A s.heap H locs → lv_has ls 3 [(2, .int (nI k)), (0, .ref (E 0)), (1, .ref (E2 0))] → W p l e ({ frames := 2, cells := 0, slots := 0, locals := 42 } : Room) s m args below meth cd H locs 0 0 (MQ below (zMQ (none) D (eW E y (cpN 7 tv t) (cpN 6 ov o) (cp2 cv qv q) (cp2 bcv bv b) cv bcv nv arv fiv rev ++ eW E2 y tv ov qv bv cv bcv nv arv fiv rev) A) args s 0 0 A) (F0 m 66 ls []) := by
                refine down ?_ ?_
                · intro H locs ls hP hD hS hl
                  refine lv_iload_n hx hb dX1_copyFrom_66 rfl (lv_at hl 0 rfl) ?_
                  refine lv_aload_n hx hb dX1_copyFrom_67 rfl (lv_at hl 1 rfl) ?_
                  refine va_get (D := D) (ci := 1) (v := .int (nI cv)) (C := RX1) (T := TX1) (N := 10) hx hb hts hinX1 hown hK hP (0) (z_apl rfl) rfl 4 (by decide) hf39 (fun _ h9 => h9) rfl dX1_copyFrom_68 ?_
                  refine lv_icmp_ge (tgt := 93) hx hb dX1_copyFrom_71 (by decide) (fun c6 => ?_) (fun c6 => ?_)
                  · have d6 := Int32.not_lt.mpr c6
                    refine lv_aload_n hx hb dX1_copyFrom_93 rfl (lv_at hl 1 rfl) ?_
                    refine lv_aload_n hx hb dX1_copyFrom_94 rfl (lv_at hl 2 rfl) ?_
                    refine va_get (D := D) (ci := 1) (v := .int (nI bcv)) (C := RX1) (T := TX1) (N := 10) hx hb hts hinX1 hown hK hP (16 + (0)) (z_apr rfl rfl) rfl 5 (by decide) hf51 (fun _ h9 => h9) rfl dX1_copyFrom_95 ?_
                    refine va_put (D := D) (ci := 1) (v := .int (nI bcv)) (ty := .int) (C := RX1) (T := TX1) (N := 10) hx hb hts hinX1 tyX1 tyX1_ok nmX1 hown hK hP hD hS (0) (z_apl rfl) rfl 5 (by decide) hf51 (fun _ h9 => h9) rfl (by decide +kernel) rfl rfl (Nat.le_of_ble_eq_true rfl) dX1_copyFrom_98 (fun H locs hP hD hS => ?_)
                    have hP : va_P D vwCl (eW E y (cpN 7 tv t) (cpN 6 ov o) (cp2 cv qv q) b cv bcv n ar fi re ++ eW E2 y tv ov qv bv cv bcv nv arv fiv rev) H := hP
                    have hD : va_D A (eW E y (cpN 7 tv t) (cpN 6 ov o) (cp2 cv qv q) b cv bcv n ar fi re ++ eW E2 y tv ov qv bv cv bcv nv arv fiv rev) := hD
                    refine lv_iconst (v := 0) hx hb dX1_copyFrom_101 (by decide) ?_
                    refine lv_istore_n (lv' := [(2, .int 0), (0, .ref (E 0)), (1, .ref (E2 0))]) hx hb dX1_copyFrom_102 rfl hl (by decide) rfl (fun ls hl => ?_)
                    have hP : va_P D vwCl (eW E y (cpN 7 tv t) (cpN 6 ov o) (cp2 cv qv q) (cp2 0 bv b) cv bcv n ar fi re ++ eW E2 y tv ov qv bv cv bcv nv arv fiv rev) H := by rw [cp2_0]; exact hP
                    have hD : va_D A (eW E y (cpN 7 tv t) (cpN 6 ov o) (cp2 cv qv q) (cp2 0 bv b) cv bcv n ar fi re ++ eW E2 y tv ov qv bv cv bcv nv arv fiv rev) := by rw [cp2_0]; exact hD
                    have loop7 : ∀ k, k ≤ bcv → ∀ (H : Heap) (locs : List Loc) (ls : Array Slot), va_P D vwCl (eW E y (cpN 7 tv t) (cpN 6 ov o) (cp2 cv qv q) (cp2 k bv b) cv bcv n ar fi re ++ eW E2 y tv ov qv bv cv bcv nv arv fiv rev) H → va_D A (eW E y (cpN 7 tv t) (cpN 6 ov o) (cp2 cv qv q) (cp2 k bv b) cv bcv n ar fi re ++ eW E2 y tv ov qv bv cv bcv nv arv fiv rev) → va_S A s.heap H locs → lv_has ls 3 [(2, .int (nI k)), (0, .ref (E 0)), (1, .ref (E2 0))] → W p l e ({ frames := 2, cells := 0, slots := 0, locals := 42 } : Room) s m args below meth cd H locs 0 0 (MQ below (zMQ (none) D (eW E y (cpN 7 tv t) (cpN 6 ov o) (cp2 cv qv q) (cp2 bcv bv b) cv bcv nv arv fiv rev ++ eW E2 y tv ov qv bv cv bcv nv arv fiv rev) A) args s 0 0 A) (F0 m 103 ls []) := by
                      refine down ?_ ?_
                      · intro H locs ls hP hD hS hl
                        refine lv_iload_n hx hb dX1_copyFrom_103 rfl (lv_at hl 0 rfl) ?_
                        refine lv_aload_n hx hb dX1_copyFrom_104 rfl (lv_at hl 1 rfl) ?_
                        refine va_get (D := D) (ci := 1) (v := .int (nI bcv)) (C := RX1) (T := TX1) (N := 10) hx hb hts hinX1 hown hK hP (0) (z_apl rfl) rfl 5 (by decide) hf51 (fun _ h9 => h9) rfl dX1_copyFrom_105 ?_
                        refine lv_icmp_ge (tgt := 130) hx hb dX1_copyFrom_108 (by decide) (fun c8 => ?_) (fun c8 => ?_)
                        · have d8 := Int32.not_lt.mpr c8
                          refine lv_aload_n hx hb dX1_copyFrom_130 rfl (lv_at hl 1 rfl) ?_
                          refine lv_aload_n hx hb dX1_copyFrom_131 rfl (lv_at hl 2 rfl) ?_
                          refine va_get (D := D) (ci := 1) (v := .int (nI nv)) (C := RX1) (T := TX1) (N := 10) hx hb hts hinX1 hown hK hP (16 + (0)) (z_apr rfl rfl) rfl 6 (by decide) hf62 (fun _ h9 => h9) rfl dX1_copyFrom_132 ?_
                          refine va_put (D := D) (ci := 1) (v := .int (nI nv)) (ty := .int) (C := RX1) (T := TX1) (N := 10) hx hb hts hinX1 tyX1 tyX1_ok nmX1 hown hK hP hD hS (0) (z_apl rfl) rfl 6 (by decide) hf62 (fun _ h9 => h9) rfl (by decide +kernel) rfl rfl (Nat.le_of_ble_eq_true rfl) dX1_copyFrom_135 (fun H locs hP hD hS => ?_)
                          have hP : va_P D vwCl (eW E y (cpN 7 tv t) (cpN 6 ov o) (cp2 cv qv q) (cp2 bcv bv b) cv bcv nv ar fi re ++ eW E2 y tv ov qv bv cv bcv nv arv fiv rev) H := hP
                          have hD : va_D A (eW E y (cpN 7 tv t) (cpN 6 ov o) (cp2 cv qv q) (cp2 bcv bv b) cv bcv nv ar fi re ++ eW E2 y tv ov qv bv cv bcv nv arv fiv rev) := hD
                          refine lv_aload_n hx hb dX1_copyFrom_138 rfl (lv_at hl 1 rfl) ?_
                          refine lv_aload_n hx hb dX1_copyFrom_139 rfl (lv_at hl 2 rfl) ?_
                          refine va_get (D := D) (ci := 1) (v := .int arv) (C := RX1) (T := TX1) (N := 10) hx hb hts hinX1 hown hK hP (16 + (0)) (z_apr rfl rfl) rfl 7 (by decide) hf65 (fun _ h9 => h9) rfl dX1_copyFrom_140 ?_
                          refine va_put (D := D) (ci := 1) (v := .int arv) (ty := .int) (C := RX1) (T := TX1) (N := 10) hx hb hts hinX1 tyX1 tyX1_ok nmX1 hown hK hP hD hS (0) (z_apl rfl) rfl 7 (by decide) hf65 (fun _ h9 => h9) rfl (by decide +kernel) rfl rfl (Nat.le_of_ble_eq_true rfl) dX1_copyFrom_143 (fun H locs hP hD hS => ?_)
                          have hP : va_P D vwCl (eW E y (cpN 7 tv t) (cpN 6 ov o) (cp2 cv qv q) (cp2 bcv bv b) cv bcv nv arv fi re ++ eW E2 y tv ov qv bv cv bcv nv arv fiv rev) H := hP
                          have hD : va_D A (eW E y (cpN 7 tv t) (cpN 6 ov o) (cp2 cv qv q) (cp2 bcv bv b) cv bcv nv arv fi re ++ eW E2 y tv ov qv bv cv bcv nv arv fiv rev) := hD
                          refine lv_aload_n hx hb dX1_copyFrom_146 rfl (lv_at hl 1 rfl) ?_
                          refine lv_aload_n hx hb dX1_copyFrom_147 rfl (lv_at hl 2 rfl) ?_
                          refine va_get (D := D) (ci := 1) (v := .int fiv) (C := RX1) (T := TX1) (N := 10) hx hb hts hinX1 hown hK hP (16 + (0)) (z_apr rfl rfl) rfl 8 (by decide) hf68 (fun _ h9 => h9) rfl dX1_copyFrom_148 ?_
                          refine va_put (D := D) (ci := 1) (v := .int fiv) (ty := .int) (C := RX1) (T := TX1) (N := 10) hx hb hts hinX1 tyX1 tyX1_ok nmX1 hown hK hP hD hS (0) (z_apl rfl) rfl 8 (by decide) hf68 (fun _ h9 => h9) rfl (by decide +kernel) rfl rfl (Nat.le_of_ble_eq_true rfl) dX1_copyFrom_151 (fun H locs hP hD hS => ?_)
                          have hP : va_P D vwCl (eW E y (cpN 7 tv t) (cpN 6 ov o) (cp2 cv qv q) (cp2 bcv bv b) cv bcv nv arv fiv re ++ eW E2 y tv ov qv bv cv bcv nv arv fiv rev) H := hP
                          have hD : va_D A (eW E y (cpN 7 tv t) (cpN 6 ov o) (cp2 cv qv q) (cp2 bcv bv b) cv bcv nv arv fiv re ++ eW E2 y tv ov qv bv cv bcv nv arv fiv rev) := hD
                          refine lv_aload_n hx hb dX1_copyFrom_154 rfl (lv_at hl 1 rfl) ?_
                          refine lv_aload_n hx hb dX1_copyFrom_155 rfl (lv_at hl 2 rfl) ?_
                          refine va_get (D := D) (ci := 1) (v := .int rev) (C := RX1) (T := TX1) (N := 10) hx hb hts hinX1 hown hK hP (16 + (0)) (z_apr rfl rfl) rfl 9 (by decide) hf71 (fun _ h9 => h9) rfl dX1_copyFrom_156 ?_
                          refine va_put (D := D) (ci := 1) (v := .int rev) (ty := .int) (C := RX1) (T := TX1) (N := 10) hx hb hts hinX1 tyX1 tyX1_ok nmX1 hown hK hP hD hS (0) (z_apl rfl) rfl 9 (by decide) hf71 (fun _ h9 => h9) rfl (by decide +kernel) rfl rfl (Nat.le_of_ble_eq_true rfl) dX1_copyFrom_159 (fun H locs hP hD hS => ?_)
                          have hP : va_P D vwCl (eW E y (cpN 7 tv t) (cpN 6 ov o) (cp2 cv qv q) (cp2 bcv bv b) cv bcv nv arv fiv rev ++ eW E2 y tv ov qv bv cv bcv nv arv fiv rev) H := hP
                          have hD : va_D A (eW E y (cpN 7 tv t) (cpN 6 ov o) (cp2 cv qv q) (cp2 bcv bv b) cv bcv nv arv fiv rev ++ eW E2 y tv ov qv bv cv bcv nv arv fiv rev) := hD
                          exact zM_v hx hb hr hlocks hS dX1_copyFrom_162 rfl hP
                        · exact absurd (nI_le (a := bcv) (b := bcv) (by omega) (by omega)) c8
                      · intro k hkk ihk H locs ls hP hD hS hl
                        refine lv_iload_n hx hb dX1_copyFrom_103 rfl (lv_at hl 0 rfl) ?_
                        refine lv_aload_n hx hb dX1_copyFrom_104 rfl (lv_at hl 1 rfl) ?_
                        refine va_get (D := D) (ci := 1) (v := .int (nI bcv)) (C := RX1) (T := TX1) (N := 10) hx hb hts hinX1 hown hK hP (0) (z_apl rfl) rfl 5 (by decide) hf51 (fun _ h9 => h9) rfl dX1_copyFrom_105 ?_
                        refine lv_icmp_ge (tgt := 130) hx hb dX1_copyFrom_108 (by decide) (fun c9 => ?_) (fun c9 => ?_)
                        · exact absurd c9 (nI_ge (a := k) (b := bcv) (by omega) (by omega))
                        · have d9 := Int32.not_le.mp c9
                          refine lv_aload_n hx hb dX1_copyFrom_111 rfl (lv_at hl 1 rfl) ?_
                          refine lv_iload_n hx hb dX1_copyFrom_112 rfl (lv_at hl 0 rfl) ?_
                          refine zcRV (As := [.int (nI k)]) (rest := []) (st1 := [.ref (E (11 + k))]) ⟨hx, hb, hml, hown, hts⟩ (c_X1_bargeAt l D y E (cpN 7 tv t) (cpN 6 ov o) (cp2 cv qv q) (cp2 k bv b) cv bcv n ar fi re k (by omega) (by omega)) (cwV 1 hts gX1_copyFrom_X1_bargeAt rfl rfl rfl (by decide +kernel) ⟨Nat.le_of_ble_eq_true rfl, Nat.le_of_ble_eq_true rfl⟩) hK (z_sub_P hP (fun z h => List.mem_append_left _ h)) (ci := 1) (q0 := 0) rfl rfl rfl rfl hl.1 rfl (lv_room (Nat.le_of_ble_eq_true rfl)) dX1_copyFrom_113 ⟨Nat.le_of_ble_eq_true rfl, Nat.le_of_ble_eq_true rfl⟩ rfl ?_
                          refine lv_aload_n hx hb dX1_copyFrom_116 rfl (lv_at hl 2 rfl) ?_
                          refine lv_iload_n hx hb dX1_copyFrom_117 rfl (lv_at hl 0 rfl) ?_
                          refine zcRV (As := [.int (nI k)]) (rest := [.ref (E (11 + k))]) (st1 := [.ref (E2 (11 + k)), .ref (E (11 + k))]) ⟨hx, hb, hml, hown, hts⟩ (c_X1_bargeAt l D y E2 tv ov qv bv cv bcv nv arv fiv rev k (by omega) (by omega)) (cwV 1 hts gX1_copyFrom_X1_bargeAt rfl rfl rfl (by decide +kernel) ⟨Nat.le_of_ble_eq_true rfl, Nat.le_of_ble_eq_true rfl⟩) hK (z_sub_P hP (fun z h => List.mem_append_right _ h)) (ci := 1) (q0 := 0) rfl rfl rfl rfl hl.1 rfl (lv_room (Nat.le_of_ble_eq_true rfl)) dX1_copyFrom_118 ⟨Nat.le_of_ble_eq_true rfl, Nat.le_of_ble_eq_true rfl⟩ rfl ?_
                          refine zcMS (As := [.ref (E (11 + k)), .ref (E2 (11 + k))]) (rest := []) (st1 := []) (cells1 := 0) (slots1 := 0) ⟨hx, hb, hml, hown, hts⟩ (c_X1_copyBarge l D y (E (11 + k)) (E2 (11 + k)) (cp2 k bv b) bv k k  _) (cwS 2 hts gX1_copyFrom_X1_copyBarge rfl rfl rfl (by decide +kernel) ⟨Nat.le_of_ble_eq_true rfl, Nat.le_of_ble_eq_true rfl⟩) hK (z_sub_P hP (z_in_2 (i := 11 + k) (j := 16 + (11 + k)) (z_apl (eW_b (by omega))) (z_apr rfl (eW_b (by omega))))) (z_D_2 hD (i := 11 + k) (j := 16 + (11 + k)) (z_apl (eW_b (by omega))) (z_apr rfl (eW_b (by omega))) (by omega)) rfl hl.1 rfl (lv_room (Nat.le_of_ble_eq_true rfl)) dX1_copyFrom_121 hS (z_sub_F hD hS hA (z_in_2 (i := 11 + k) (j := 16 + (11 + k)) (z_apl (eW_b (by omega))) (z_apr rfl (eW_b (by omega))))) ⟨Nat.le_of_ble_eq_true rfl, Nat.le_of_ble_eq_true rfl⟩ rfl rfl rfl (fun H locs hP1 hz hfr hS => ?_)
                          obtain ⟨hP, hD⟩ := z_two hP hD (i := 11 + k) (j := 16 + (11 + k)) (z_apl (eW_b (by omega))) (z_apr rfl (eW_b (by omega))) (by omega) (z_setl (by show 11 + k < 16; omega) (eW_setb (by omega) (fun j i h => cpF_k _ _ _ _ _ _ h))) hP1 hfr
                          refine lv_iinc (v := nI (k + 1)) (lv' := [(2, .int (nI (k + 1))), (0, .ref (E 0)), (1, .ref (E2 0))]) hx hb dX1_copyFrom_124 hl (k := 0) rfl (nI_1 _) (by decide) rfl (fun ls hl => ?_)
                          refine lv_goto (tgt := 103) hx hb dX1_copyFrom_127 (by decide) ?_
                          have e10 : (cp2 (k + 1) bv b) = (cpF (cp2 k bv b) k bv k) := (cp2_s _ _ _).symm
                          refine ihk H locs ls ?_ ?_ hS ?_
                          · first | exact hP | (simp only [e10]; exact hP)
                          · first | exact hD | (simp only [e10]; exact hD)
                          · first | exact lv_sub hl [0, 1, 2] rfl | (simp only [e10]; exact lv_sub hl [0, 1, 2] rfl)
                    exact loop7 0 (Nat.zero_le _) H locs ls hP hD hS (lv_sub hl [0, 1, 2] rfl)
                  · exact absurd (nI_le (a := cv) (b := cv) (by omega) (by omega)) c6
                · intro k hkk ihk H locs ls hP hD hS hl
                  refine lv_iload_n hx hb dX1_copyFrom_66 rfl (lv_at hl 0 rfl) ?_
                  refine lv_aload_n hx hb dX1_copyFrom_67 rfl (lv_at hl 1 rfl) ?_
                  refine va_get (D := D) (ci := 1) (v := .int (nI cv)) (C := RX1) (T := TX1) (N := 10) hx hb hts hinX1 hown hK hP (0) (z_apl rfl) rfl 4 (by decide) hf39 (fun _ h9 => h9) rfl dX1_copyFrom_68 ?_
                  refine lv_icmp_ge (tgt := 93) hx hb dX1_copyFrom_71 (by decide) (fun c11 => ?_) (fun c11 => ?_)
                  · exact absurd c11 (nI_ge (a := k) (b := cv) (by omega) (by omega))
                  · have d11 := Int32.not_le.mp c11
                    refine lv_aload_n hx hb dX1_copyFrom_74 rfl (lv_at hl 1 rfl) ?_
                    refine lv_iload_n hx hb dX1_copyFrom_75 rfl (lv_at hl 0 rfl) ?_
                    refine zcRV (As := [.int (nI k)]) (rest := []) (st1 := [.ref (E (5 + k))]) ⟨hx, hb, hml, hown, hts⟩ (c_X1_weirAt l D y E (cpN 7 tv t) (cpN 6 ov o) (cp2 k qv q) b cv bc n ar fi re k (by omega) (by omega)) (cwV 1 hts gX1_copyFrom_X1_weirAt rfl rfl rfl (by decide +kernel) ⟨Nat.le_of_ble_eq_true rfl, Nat.le_of_ble_eq_true rfl⟩) hK (z_sub_P hP (fun z h => List.mem_append_left _ h)) (ci := 1) (q0 := 0) rfl rfl rfl rfl hl.1 rfl (lv_room (Nat.le_of_ble_eq_true rfl)) dX1_copyFrom_76 ⟨Nat.le_of_ble_eq_true rfl, Nat.le_of_ble_eq_true rfl⟩ rfl ?_
                    refine lv_aload_n hx hb dX1_copyFrom_79 rfl (lv_at hl 2 rfl) ?_
                    refine lv_iload_n hx hb dX1_copyFrom_80 rfl (lv_at hl 0 rfl) ?_
                    refine zcRV (As := [.int (nI k)]) (rest := [.ref (E (5 + k))]) (st1 := [.ref (E2 (5 + k)), .ref (E (5 + k))]) ⟨hx, hb, hml, hown, hts⟩ (c_X1_weirAt l D y E2 tv ov qv bv cv bcv nv arv fiv rev k (by omega) (by omega)) (cwV 1 hts gX1_copyFrom_X1_weirAt rfl rfl rfl (by decide +kernel) ⟨Nat.le_of_ble_eq_true rfl, Nat.le_of_ble_eq_true rfl⟩) hK (z_sub_P hP (fun z h => List.mem_append_right _ h)) (ci := 1) (q0 := 0) rfl rfl rfl rfl hl.1 rfl (lv_room (Nat.le_of_ble_eq_true rfl)) dX1_copyFrom_81 ⟨Nat.le_of_ble_eq_true rfl, Nat.le_of_ble_eq_true rfl⟩ rfl ?_
                    refine zcMS (As := [.ref (E (5 + k)), .ref (E2 (5 + k))]) (rest := []) (st1 := []) (cells1 := 0) (slots1 := 0) ⟨hx, hb, hml, hown, hts⟩ (c_X1_copyWeir l D y (E (5 + k)) (E2 (5 + k)) (cp2 k qv q) qv k k (h01 k hkk) _) (cwS 2 hts gX1_copyFrom_X1_copyWeir rfl rfl rfl (by decide +kernel) ⟨Nat.le_of_ble_eq_true rfl, Nat.le_of_ble_eq_true rfl⟩) hK (z_sub_P hP (z_in_2 (i := 5 + k) (j := 16 + (5 + k)) (z_apl (eW_w (by omega))) (z_apr rfl (eW_w (by omega))))) (z_D_2 hD (i := 5 + k) (j := 16 + (5 + k)) (z_apl (eW_w (by omega))) (z_apr rfl (eW_w (by omega))) (by omega)) rfl hl.1 rfl (lv_room (Nat.le_of_ble_eq_true rfl)) dX1_copyFrom_84 hS (z_sub_F hD hS hA (z_in_2 (i := 5 + k) (j := 16 + (5 + k)) (z_apl (eW_w (by omega))) (z_apr rfl (eW_w (by omega))))) ⟨Nat.le_of_ble_eq_true rfl, Nat.le_of_ble_eq_true rfl⟩ rfl rfl rfl (fun H locs hP1 hz hfr hS => ?_)
                    obtain ⟨hP, hD⟩ := z_two hP hD (i := 5 + k) (j := 16 + (5 + k)) (z_apl (eW_w (by omega))) (z_apr rfl (eW_w (by omega))) (by omega) (z_setl (by show 5 + k < 16; omega) (eW_setw (by omega) (fun j i h => cpF_k _ _ _ _ _ _ h))) hP1 hfr
                    refine lv_iinc (v := nI (k + 1)) (lv' := [(2, .int (nI (k + 1))), (0, .ref (E 0)), (1, .ref (E2 0))]) hx hb dX1_copyFrom_87 hl (k := 0) rfl (nI_1 _) (by decide) rfl (fun ls hl => ?_)
                    refine lv_goto (tgt := 66) hx hb dX1_copyFrom_90 (by decide) ?_
                    have e12 : (cp2 (k + 1) qv q) = (cpF (cp2 k qv q) k qv k) := (cp2_s _ _ _).symm
                    refine ihk H locs ls ?_ ?_ hS ?_
                    · first | exact hP | (simp only [e12]; exact hP)
                    · first | exact hD | (simp only [e12]; exact hD)
                    · first | exact lv_sub hl [0, 1, 2] rfl | (simp only [e12]; exact lv_sub hl [0, 1, 2] rfl)
              exact loop5 0 (Nat.zero_le _) H locs ls hP hD hS (lv_sub hl [0, 1, 2] rfl)
            · exact absurd (nI_le (a := 6) (b := 6) (by omega) (by omega)) c4
          · intro k hkk ihk H locs ls hP hD hS hl
            refine lv_iload_n hx hb dX1_copyFrom_30 rfl (lv_at hl 0 rfl) ?_
            refine lv_aload_n hx hb dX1_copyFrom_31 rfl (lv_at hl 1 rfl) ?_
            refine va_get (D := D) (ci := 1) (v := .ref (E 3)) (C := RX1) (T := TX1) (N := 10) hx hb hts hinX1 hown hK hP (0) (z_apl rfl) rfl 2 (by decide) hf15 (fun _ h9 => h9) rfl dX1_copyFrom_32 ?_
            refine va_alen hx hb hK hP 3 0 (v := nI 6) rfl rfl rfl dX1_copyFrom_35 ?_
            refine lv_icmp_ge (tgt := 56) hx hb dX1_copyFrom_36 (by decide) (fun c13 => ?_) (fun c13 => ?_)
            · exact absurd c13 (nI_ge (a := k) (b := 6) (by omega) (by omega))
            · have d13 := Int32.not_le.mp c13
              refine lv_aload_n hx hb dX1_copyFrom_39 rfl (lv_at hl 1 rfl) ?_
              refine va_get (D := D) (ci := 1) (v := .ref (E 3)) (C := RX1) (T := TX1) (N := 10) hx hb hts hinX1 hown hK hP (0) (z_apl rfl) rfl 2 (by decide) hf15 (fun _ h9 => h9) rfl dX1_copyFrom_40 ?_
              refine lv_iload_n hx hb dX1_copyFrom_43 rfl (lv_at hl 0 rfl) ?_
              refine lv_aload_n hx hb dX1_copyFrom_44 rfl (lv_at hl 2 rfl) ?_
              refine lv_iload_n hx hb dX1_copyFrom_45 rfl (lv_at hl 0 rfl) ?_
              refine zcRV (As := [.int (nI k)]) (rest := [.int (nI k), .ref (E 3)]) (st1 := [.int (nI (ov k)), .int (nI k), .ref (E 3)]) ⟨hx, hb, hml, hown, hts⟩ (c_X1_inOrder l D y E2 tv ov qv bv cv bcv nv arv fiv rev k (by omega)) (cwV 1 hts gX1_copyFrom_X1_inOrder rfl rfl rfl (by decide +kernel) ⟨Nat.le_of_ble_eq_true rfl, Nat.le_of_ble_eq_true rfl⟩) hK (z_sub_P hP (fun z h => List.mem_append_right _ h)) (ci := 1) (q0 := 0) rfl rfl rfl rfl hl.1 rfl (lv_room (Nat.le_of_ble_eq_true rfl)) dX1_copyFrom_46 ⟨Nat.le_of_ble_eq_true rfl, Nat.le_of_ble_eq_true rfl⟩ rfl ?_
              refine z_ast (x := nI (ov k)) hx hb hK hP hD hS 3 (f := fun i => nI ((cpN k ov o) i)) rfl k rfl (by omega) (by decide) (by rw [z_updO]) dX1_copyFrom_49 (fun H locs hP hD hS => ?_)
              have hP : va_P D vwCl (eW E y (cpN 7 tv t) (va_up (cpN k ov o) k (ov k)) q b c bc n ar fi re ++ eW E2 y tv ov qv bv cv bcv nv arv fiv rev) H := hP
              have hD : va_D A (eW E y (cpN 7 tv t) (va_up (cpN k ov o) k (ov k)) q b c bc n ar fi re ++ eW E2 y tv ov qv bv cv bcv nv arv fiv rev) := hD
              refine lv_iinc (v := nI (k + 1)) (lv' := [(2, .int (nI (k + 1))), (0, .ref (E 0)), (1, .ref (E2 0))]) hx hb dX1_copyFrom_50 hl (k := 0) rfl (nI_1 _) (by decide) rfl (fun ls hl => ?_)
              refine lv_goto (tgt := 30) hx hb dX1_copyFrom_53 (by decide) ?_
              have e14 : (cpN (k + 1) ov o) = (va_up (cpN k ov o) k (ov k)) := (va_up_cp _ _ _).symm
              refine ihk H locs ls ?_ ?_ hS ?_
              · first | exact hP | (simp only [e14]; exact hP)
              · first | exact hD | (simp only [e14]; exact hD)
              · first | exact lv_sub hl [0, 1, 2] rfl | (simp only [e14]; exact lv_sub hl [0, 1, 2] rfl)
        exact loop3 0 (Nat.zero_le _) H locs ls hP hD hS (lv_sub hl [0, 1, 2] rfl)
      · exact absurd (nI_le (a := 7) (b := 7) (by omega) (by omega)) c2
    · intro k hkk ihk H locs ls hP hD hS hl
      refine lv_iload_n hx hb dX1_copyFrom_2 rfl (lv_at hl 0 rfl) ?_
      refine lv_aload_n hx hb dX1_copyFrom_3 rfl (lv_at hl 1 rfl) ?_
      refine va_get (D := D) (ci := 1) (v := .ref (E 1)) (C := RX1) (T := TX1) (N := 10) hx hb hts hinX1 hown hK hP (0) (z_apl rfl) rfl 0 (by decide) hf9 (fun _ h9 => h9) rfl dX1_copyFrom_4 ?_
      refine va_alen hx hb hK hP 1 0 (v := nI 7) rfl rfl rfl dX1_copyFrom_7 ?_
      refine lv_icmp_ge (tgt := 28) hx hb dX1_copyFrom_8 (by decide) (fun c15 => ?_) (fun c15 => ?_)
      · exact absurd c15 (nI_ge (a := k) (b := 7) (by omega) (by omega))
      · have d15 := Int32.not_le.mp c15
        refine lv_aload_n hx hb dX1_copyFrom_11 rfl (lv_at hl 1 rfl) ?_
        refine va_get (D := D) (ci := 1) (v := .ref (E 1)) (C := RX1) (T := TX1) (N := 10) hx hb hts hinX1 hown hK hP (0) (z_apl rfl) rfl 0 (by decide) hf9 (fun _ h9 => h9) rfl dX1_copyFrom_12 ?_
        refine lv_iload_n hx hb dX1_copyFrom_15 rfl (lv_at hl 0 rfl) ?_
        refine lv_aload_n hx hb dX1_copyFrom_16 rfl (lv_at hl 2 rfl) ?_
        refine lv_iload_n hx hb dX1_copyFrom_17 rfl (lv_at hl 0 rfl) ?_
        refine zcRV (As := [.int (nI k)]) (rest := [.int (nI k), .ref (E 1)]) (st1 := [.int ((tv k)), .int (nI k), .ref (E 1)]) ⟨hx, hb, hml, hown, hts⟩ (c_X1_tableEels l D y E2 tv ov qv bv cv bcv nv arv fiv rev k (by omega)) (cwV 1 hts gX1_copyFrom_X1_tableEels rfl rfl rfl (by decide +kernel) ⟨Nat.le_of_ble_eq_true rfl, Nat.le_of_ble_eq_true rfl⟩) hK (z_sub_P hP (fun z h => List.mem_append_right _ h)) (ci := 1) (q0 := 0) rfl rfl rfl rfl hl.1 rfl (lv_room (Nat.le_of_ble_eq_true rfl)) dX1_copyFrom_18 ⟨Nat.le_of_ble_eq_true rfl, Nat.le_of_ble_eq_true rfl⟩ rfl ?_
        refine z_ast hx hb hK hP hD hS 1 (f := (cpN k tv t)) rfl k rfl (by omega) (by decide) rfl dX1_copyFrom_21 (fun H locs hP hD hS => ?_)
        have hP : va_P D vwCl (eW E y (upd (cpN k tv t) k (tv k)) o q b c bc n ar fi re ++ eW E2 y tv ov qv bv cv bcv nv arv fiv rev) H := hP
        have hD : va_D A (eW E y (upd (cpN k tv t) k (tv k)) o q b c bc n ar fi re ++ eW E2 y tv ov qv bv cv bcv nv arv fiv rev) := hD
        refine lv_iinc (v := nI (k + 1)) (lv' := [(2, .int (nI (k + 1))), (0, .ref (E 0)), (1, .ref (E2 0))]) hx hb dX1_copyFrom_22 hl (k := 0) rfl (nI_1 _) (by decide) rfl (fun ls hl => ?_)
        refine lv_goto (tgt := 2) hx hb dX1_copyFrom_25 (by decide) ?_
        have e16 : (cpN (k + 1) tv t) = (upd (cpN k tv t) k (tv k)) := (cpN_upd _ _ _).symm
        refine ihk H locs ls ?_ ?_ hS ?_
        · first | exact hP | (simp only [e16]; exact hP)
        · first | exact hD | (simp only [e16]; exact hD)
        · first | exact lv_sub hl [0, 1, 2] rfl | (simp only [e16]; exact lv_sub hl [0, 1, 2] rfl)
  exact loop1 0 (Nat.zero_le _) H locs ls hP hD hS (lv_sub hl [0, 1, 2] rfl)
end
