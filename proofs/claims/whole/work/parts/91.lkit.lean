/-! the law's walk: what holds all along -/
def LCtx (p : Program) (s : State) (m : MethodId) (c : Code) (b L : Nat) (xs : Nat → Int32) (D : va_G) (y : Nat → ClassId) : Prop :=
  p.tables.exec = Jvm.exec ∧ c.code = cL_law ∧ c.maxLocals = 9 ∧ s.vm.findClass RL = some m.cls ∧ (∀ w ∈ lw_tbl, w.before #[Value.ref b] s = true) ∧ va_X b L xs s s.heap ∧ b < s.heap.size ∧ va_K D vwCl (tyL y) s ∧ zN0 s ∧ zX0 s ∧ L ≤ 2048
abbrev lA (s : State) : Nat → Prop := fun q => s.heap.size ≤ q
section LKIT
variable {p : Program} {l : Launch} {e : Env} {s : State} {m : MethodId} {below : List Frame} {meth : Method} {c : Code} {H : Heap} {locs : List Loc} {cells slots : Nat} {Q : State → Prop}
variable {pc b L : Nat} {xs : Nat → Int32} {D : va_G} {y : Nat → ClassId} {ls : Array Slot} {rest : List Value}
theorem LCtx.hx (C : LCtx p s m c b L xs D y) : p.tables.exec = Jvm.exec := C.1
theorem LCtx.hb (C : LCtx p s m c b L xs D y) : c.code = cL_law := C.2.1
theorem LCtx.hml (C : LCtx p s m c b L xs D y) : c.maxLocals = 9 := C.2.2.1
theorem LCtx.hown (C : LCtx p s m c b L xs D y) : s.vm.findClass RL = some m.cls := C.2.2.2.1
theorem LCtx.hts (C : LCtx p s m c b L xs D y) : ∀ w ∈ lw_tbl, w.before #[Value.ref b] s = true := C.2.2.2.2.1
theorem LCtx.hXs (C : LCtx p s m c b L xs D y) : va_X b L xs s s.heap := C.2.2.2.2.2.1
theorem LCtx.hbl (C : LCtx p s m c b L xs D y) : b < s.heap.size := C.2.2.2.2.2.2.1
theorem LCtx.hK (C : LCtx p s m c b L xs D y) : va_K D vwCl (tyL y) s := C.2.2.2.2.2.2.2.1
theorem LCtx.hN (C : LCtx p s m c b L xs D y) : zN0 s := C.2.2.2.2.2.2.2.2.1
theorem LCtx.hX (C : LCtx p s m c b L xs D y) : zX0 s := C.2.2.2.2.2.2.2.2.2.1
theorem LCtx.hL (C : LCtx p s m c b L xs D y) : L ≤ 2048 := C.2.2.2.2.2.2.2.2.2.2
theorem LCtx.hbA (C : LCtx p s m c b L xs D y) : ¬ lA s b := Nat.not_le.mpr C.hbl
theorem LCtx.hX9 (C : LCtx p s m c b L xs D y) (hS : va_S (lA s) s.heap H locs) : ∀ U : State, U.heap = H → s.WarmedH U.vm → zX0 U := fun U hU hW => C.hX.grown hW (fun q hq => by rw [hU]; exact hS.2.1 q hq (Nat.not_le.mpr hq))
theorem vp_in_n {k n : Nat} (hk : k < n) (hn : k < 2147483648) : vp_in (nI k) n := by
  unfold vp_in
  rintro (h | h)
  · exact absurd h (nI_nlt (b := 0) (Nat.zero_le k) hn)
  · rw [nI_clamp hn] at h; omega
/-- an int of the script, at i + j -/
theorem l_arg (C : LCtx p s m c b L xs D y) {i j : Nat} {v : Int32} (ha : xs (i + j) = v) (hi : i + j < L) {J : Int} (hJ : Int32.ofInt J = nI j) (d0 : decode cL_law pc = .ok (.aload_n 0, 1)) (d1 : decode cL_law (pc + 1) = .ok (.iload 4, 2)) (d2 : decode cL_law (pc + 1 + 2) = .ok (.iconst J, 1)) (d3 : decode cL_law (pc + 1 + 2 + 1) = .ok (.iadd, 1)) (d4 : decode cL_law (pc + 1 + 2 + 1 + 1) = .ok (.iaload, 1)) (hS : va_S (lA s) s.heap H locs) (h0 : ls[0]? = some (.val (.ref b))) (h4 : ls[4]? = some (.val (.int (nI i))))
    (k : W p l e room_1 s m #[Value.ref b] below meth c H locs cells slots Q (F0 m (pc + 1 + 2 + 1 + 1 + 1) ls (.int v :: rest))) : W p l e room_1 s m #[Value.ref b] below meth c H locs cells slots Q (F0 m pc ls rest) := by
  have hL := C.hL
  have hx := C.hx
  have hb := C.hb
  refine lv_aload_n hx hb d0 rfl h0 ?_
  refine lv_iload hx hb d1 h4 ?_
  refine lv_iconst hx hb d2 hJ ?_
  refine lv_iadd hx hb d3 ?_
  rw [nI_add]
  refine va_sld hx hb C.hXs C.hbl C.hbA hS (vp_in_n hi (by omega)) d4 ?_
  rw [nI_clamp (by omega), ha]
  exact k
end LKIT
