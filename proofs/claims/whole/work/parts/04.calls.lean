/-! calls by contract -/
section ZCALLS
variable {p : Program} {l : Launch} {e : Env} {R : Room} {s : State} {m : MethodId} {args : Array Value} {below : List Frame} {meth : Method} {c : Code} {H : Heap} {locs : List Loc} {cells slots cells1 slots1 : Nat} {Q : State → Prop}
variable {cc : ByteArray} {pc : Nat} {ls : Array Slot} {rest st0 st1 : List Value} {D : va_G} {y : Nat → ClassId} {A0 : Nat → Prop} {H0 : Heap} {a : Array Value}
variable {n : MethodName} {bytes : ByteArray} {maxL nL mc ms k index : Nat} {ret : Option FieldType} {ws : List Cond} {rm : Room} {Ts : List Cond} {own C : String} {b : Nat} {As : List Value} {w w1 : va_W} {rv : Option Value}
theorem zRun_R (hr : va_Run p l e R s m args below meth c H locs cells slots 0 0 (F0 m pc ls st0) rest (zRQ rv a) (fun _ => False)) (hst1 : rv.toList ++ rest = st1)
    (kk : W p l e R s m args below meth c H locs cells slots Q (F0 m (pc + 3) ls st1)) : W p l e R s m args below meth c H locs cells slots Q (F0 m pc ls st0) := by
  subst hst1
  intro T hT X
  obtain ⟨v, st₀, t, T', L, h0, X', hL, e1, e2, ⟨hv, hh⟩, st⟩ := hr T hT X
  cases hv
  obtain ⟨t2, a1, b1⟩ := kk T' (by rw [e1, hh, h0]) (Stand.forget X' (fun q h => (hL q h).elim))
  exact ⟨t2, st t2 a1, b1⟩
theorem zRun_M {A1 : Nat → Prop} {free : Addr → Prop} (hr : va_Run p l e R s m args below meth c H locs cells slots mc ms (F0 m pc ls st0) rest (zMQ rv D w1 A1 a) free) (hst1 : rv.toList ++ rest = st1) (hc1 : cells + mc = cells1) (hs1 : slots + ms = slots1) (hS : va_S A0 H0 H locs) (hA : ∀ q : Nat, A1 q → A0 q) (hf : ∀ q, free q → A0 q)
    (kk : ∀ (H1 : Heap) (locs1 : List Loc), va_P D vwCl w1 H1 → H.size ≤ H1.size → (∀ q : Nat, q < H.size → ¬ A1 q → H1[q]? = H[q]?) → va_S A0 H0 H1 locs1 → W p l e R s m args below meth c H1 locs1 cells1 slots1 Q (F0 m (pc + 3) ls st1)) : W p l e R s m args below meth c H locs cells slots Q (F0 m pc ls st0) := by
  subst hst1; subst hc1; subst hs1
  intro T hT X
  obtain ⟨v, st₀, t, T', L, h0, X', hL, e1, e2, ⟨⟨hv, hp⟩, hz, hk⟩, st⟩ := hr T hT X
  cases hv
  rw [h0] at hz hk
  obtain ⟨t2, a1, b1⟩ := kk T'.heap (locs ++ L) (by rw [e1]; exact hp) (by rw [e1]; exact hz) (fun q h1 h2 => by rw [e1]; exact hk q h1 h2)
    ⟨Nat.le_trans hS.1 (by rw [e1]; exact hz), fun q h1 h2 => by rw [e1, hk q (Nat.lt_of_lt_of_le h1 hS.1) (fun z => h2 (hA q z))]; exact hS.2.1 q h1 h2, fun q hq => by
      rcases List.mem_append.mp hq with h | h
      · exact hS.2.2 q h
      · exact hf _ (hL q h)⟩ T' rfl X'
  exact ⟨t2, st t2 a1, b1⟩
theorem zcRV (S : CallFix p m c cc nL s args Ts own) (hM : zR l n ws rm D y (.ref b :: As) w rv) (cw : CallW R s args own C index n bytes maxL ret ws rm 0 0 k) (hK : va_K D vwCl (tyL y) s) (hP : va_P D vwCl w H) {ci q0 : Nat} {qc : vw_C} {fs : List Value} (hc : vwCl[ci]? = some qc) (hcC : qc.1 = C) (he : w[q0]? = some (b, .inr (ci, fs))) (hn : As.length = k) (hsz : ls.size = nL) (hst : st0 = As.reverse ++ .ref b :: rest) (hW : 2 * (F0 m pc ls (As.reverse ++ .ref b :: rest)).monitorRoom + (rest.map fun v => v.category).sum ≤ 8) (hdg : decode cc pc = .ok (.invokevirtual index, 3)) (hf : cells ≤ R.cells ∧ slots ≤ R.slots) (hst1 : rv.toList ++ rest = st1)
    (kk : W p l e R s m args below meth c H locs cells slots Q (F0 m (pc + 3) ls st1)) : W p l e R s m args below meth c H locs cells slots Q (F0 m pc ls st0) := by
  subst hst
  exact zRun_R (va_runV (As := As) (rest := rest) (g := F0 m pc ls (As.reverse ++ .ref b :: rest)) (locs := locs) S hM cw ⟨zRP_blind, by subst hcC; exact va_recv hK hP hc he, fun U hU hW => ⟨rfl, by rw [hU]; exact hP, va_K.moved hW.alike hK⟩⟩ rfl hn hsz rfl hW hdg ⟨hf.1, hf.2⟩) hst1 kk
theorem zcRS (S : CallFix p m c cc nL s args Ts own) (hM : zR l n ws rm D y As w rv) (cw : CallB R s args own index n bytes maxL ret ws rm 0 0 k ∧ (Cond.static n).before args s = true) (hK : va_K D vwCl (tyL y) s) (hP : va_P D vwCl w H) (hn : As.length = k) (hsz : ls.size = nL) (hst : st0 = As.reverse ++ rest) (hW : 2 * (F0 m pc ls (As.reverse ++ rest)).monitorRoom + (rest.map fun v => v.category).sum ≤ 8) (hdg : decode cc pc = .ok (.invokestatic index, 3)) (hf : cells ≤ R.cells ∧ slots ≤ R.slots) (hst1 : rv.toList ++ rest = st1)
    (kk : W p l e R s m args below meth c H locs cells slots Q (F0 m (pc + 3) ls st1)) : W p l e R s m args below meth c H locs cells slots Q (F0 m pc ls st0) := by
  subst hst
  exact zRun_R (va_runS (As := As) (rest := rest) (g := F0 m pc ls (As.reverse ++ rest)) (locs := locs) S hM cw ⟨zRP_blind, fun U hU hW => ⟨rfl, by rw [hU]; exact hP, va_K.moved hW.alike hK⟩⟩ rfl hn hsz rfl hW hdg ⟨hf.1, hf.2⟩) hst1 kk
theorem zcMV (S : CallFix p m c cc nL s args Ts own) (hM : zM l n ws rm D y (.ref b :: As) w H.size rv w1 mc ms) (cw : CallW R s args own C index n bytes maxL ret ws rm mc ms k) (hK : va_K D vwCl (tyL y) s) (hP : va_P D vwCl w H) (hD : va_D (fun _ => True) w) {ci q0 : Nat} {qc : vw_C} {fs : List Value} (hc : vwCl[ci]? = some qc) (hcC : qc.1 = C) (he : w[q0]? = some (b, .inr (ci, fs))) (hn : As.length = k) (hsz : ls.size = nL) (hst : st0 = As.reverse ++ .ref b :: rest) (hW : 2 * (F0 m pc ls (As.reverse ++ .ref b :: rest)).monitorRoom + (rest.map fun v => v.category).sum ≤ 8) (hdg : decode cc pc = .ok (.invokevirtual index, 3)) (hS : va_S A0 H0 H locs) (hF : ∀ q : Nat, va_A w H.size q → A0 q) (hf : cells + mc ≤ R.cells ∧ slots + ms ≤ R.slots) (hst1 : rv.toList ++ rest = st1) (hc1 : cells + mc = cells1) (hs1 : slots + ms = slots1)
    (kk : ∀ (H1 : Heap) (locs1 : List Loc), va_P D vwCl w1 H1 → H.size ≤ H1.size → (∀ q : Nat, q < H.size → ¬ va_A w H.size q → H1[q]? = H[q]?) → va_S A0 H0 H1 locs1 → W p l e R s m args below meth c H1 locs1 cells1 slots1 Q (F0 m (pc + 3) ls st1)) : W p l e R s m args below meth c H locs cells slots Q (F0 m pc ls st0) := by
  subst hst
  exact zRun_M (va_runV (As := As) (rest := rest) (g := F0 m pc ls (As.reverse ++ .ref b :: rest)) (locs := locs) S hM cw ⟨zMP_blind, by subst hcC; exact va_recv hK hP hc he, fun U hU hW => ⟨rfl, by rw [hU], by rw [hU]; exact hP, va_K.moved hW.alike hK, hD⟩⟩ rfl hn hsz rfl hW hdg ⟨hf.1, hf.2⟩) hst1 hc1 hs1 hS hF hF kk
theorem zcMS (S : CallFix p m c cc nL s args Ts own) (hM : zM l n ws rm D y As w H.size rv w1 mc ms) (cw : CallB R s args own index n bytes maxL ret ws rm mc ms k ∧ (Cond.static n).before args s = true) (hK : va_K D vwCl (tyL y) s) (hP : va_P D vwCl w H) (hD : va_D (fun _ => True) w) (hn : As.length = k) (hsz : ls.size = nL) (hst : st0 = As.reverse ++ rest) (hW : 2 * (F0 m pc ls (As.reverse ++ rest)).monitorRoom + (rest.map fun v => v.category).sum ≤ 8) (hdg : decode cc pc = .ok (.invokestatic index, 3)) (hS : va_S A0 H0 H locs) (hF : ∀ q : Nat, va_A w H.size q → A0 q) (hf : cells + mc ≤ R.cells ∧ slots + ms ≤ R.slots) (hst1 : rv.toList ++ rest = st1) (hc1 : cells + mc = cells1) (hs1 : slots + ms = slots1)
    (kk : ∀ (H1 : Heap) (locs1 : List Loc), va_P D vwCl w1 H1 → H.size ≤ H1.size → (∀ q : Nat, q < H.size → ¬ va_A w H.size q → H1[q]? = H[q]?) → va_S A0 H0 H1 locs1 → W p l e R s m args below meth c H1 locs1 cells1 slots1 Q (F0 m (pc + 3) ls st1)) : W p l e R s m args below meth c H locs cells slots Q (F0 m pc ls st0) := by
  subst hst
  exact zRun_M (va_runS (As := As) (rest := rest) (g := F0 m pc ls (As.reverse ++ rest)) (locs := locs) S hM cw ⟨zMP_blind, fun U hU hW => ⟨rfl, by rw [hU], by rw [hU]; exact hP, va_K.moved hW.alike hK, hD⟩⟩ rfl hn hsz rfl hW hdg ⟨hf.1, hf.2⟩) hst1 hc1 hs1 hS hF hF kk
theorem zcMI (S : CallFix p m c cc nL s args Ts own) (hM : zM l n ws rm D y (.ref b :: As) w H.size rv w1 mc ms) (cw : CallB R s args own index n bytes maxL none ws rm mc ms k ∧ n.name = "<init>" ∧ (Cond.instanceMethod n).before args s = true) (hK : va_K D vwCl (tyL y) s) (hP : va_P D vwCl w H) (hD : va_D (fun _ => True) w) (hn : As.length = k) (hsz : ls.size = nL) (hst : st0 = As.reverse ++ .ref b :: rest) (hW : 2 * (F0 m pc ls (As.reverse ++ .ref b :: rest)).monitorRoom + (rest.map fun v => v.category).sum ≤ 8) (hdg : decode cc pc = .ok (.invokespecial index, 3)) (hS : va_S A0 H0 H locs) (hF : ∀ q : Nat, va_A w H.size q → A0 q) (hf : cells + mc ≤ R.cells ∧ slots + ms ≤ R.slots) (hst1 : rv.toList ++ rest = st1) (hc1 : cells + mc = cells1) (hs1 : slots + ms = slots1)
    (kk : ∀ (H1 : Heap) (locs1 : List Loc), va_P D vwCl w1 H1 → H.size ≤ H1.size → (∀ q : Nat, q < H.size → ¬ va_A w H.size q → H1[q]? = H[q]?) → va_S A0 H0 H1 locs1 → W p l e R s m args below meth c H1 locs1 cells1 slots1 Q (F0 m (pc + 3) ls st1)) : W p l e R s m args below meth c H locs cells slots Q (F0 m pc ls st0) := by
  subst hst
  exact zRun_M (va_runI (As := As) (rest := rest) (g := F0 m pc ls (As.reverse ++ .ref b :: rest)) (locs := locs) S hM cw ⟨zMP_blind, fun U hU hW => ⟨rfl, by rw [hU], by rw [hU]; exact hP, va_K.moved hW.alike hK, hD⟩⟩ rfl hn hsz rfl hW hdg ⟨hf.1, hf.2⟩) hst1 hc1 hs1 hS hF hF kk
end ZCALLS
