/-! a turn of the law's loop -/
theorem updL_at (g : Nat → Int64) (k : Nat) (x : Int64) : vp_updL g k x k = x := if_pos rfl
theorem wasB_r {b b' : Fld} (hr : ∀ a, 1 ≤ a → a ≤ 3 → b' a = b a) : ∀ a, 1 ≤ a → a ≤ 3 → wasB b' a = b a := fun a h1 h3 => by
  unfold wasB
  rw [if_neg (by omega)]
  exact hr a h1 h3
theorem wasB_0 (b : Fld) (i : Nat) : wasB b 0 i = nI i := by unfold wasB; rw [if_pos rfl]
def LInv (X0 O : Nat) (E E2 Y Z Z2 : Nat → Nat) (y : Nat → ClassId) (j : Nat) (w : va_W) : Prop := ∃ (t : Nat → Int32) (o : Nat → Nat) (q b b' : Fld) (c bc n : Nat) (ar fi re : Int32) (T : TS) (g : Nat → Int64) (th : Int32) (T' : Nst), Sim j t o q b b' c bc n ar ∧ w = (sW X0 E E2 y t o q b c bc n ar fi re T ++ [oC O y g]) ++ zW Y Z Z2 y th t c q b' bc n ar fi re T'
theorem LInv.mk' {X0 O : Nat} {E E2 Y Z Z2 : Nat → Nat} {y : Nat → ClassId} {j : Nat} {t tm : Nat → Int32} {o : Nat → Nat} {q qm b b' : Fld} {c cm bc bcm n nm : Nat} {ar arm fi fim re rem : Int32} {T : TS} {g : Nat → Int64} {th : Int32} {T' : Nst} (S : Sim j t o q b b' c bc n ar) (et : tm = t) (ec : cm = c) (eq : qm = q) (ebc : bcm = bc) (en : nm = n) (ear : arm = ar) (efi : fim = fi) (ere : rem = re) : LInv X0 O E E2 Y Z Z2 y j ((sW X0 E E2 y t o q b c bc n ar fi re T ++ [oC O y g]) ++ zW Y Z Z2 y th tm cm qm b' bcm nm arm fim rem T') := by
  subst et; subst ec; subst eq; subst ebc; subst en; subst ear; subst efi; subst ere
  exact ⟨tm, o, qm, b, b', cm, bcm, nm, arm, fim, rem, T, g, th, T', S, rfl⟩
/-- how the walk goes on behind a call -/
def LNext (p : Program) (l : Launch) (e : Env) (s : State) (m : MethodId) (below : List Frame) (meth : Method) (cd : Code) (sb : Nat) (Q : State → Prop) (X0 O : Nat) (E E2 Y Z Z2 : Nat → Nat) (D : va_G) (y : Nat → ClassId) (i j cells slots : Nat) : Prop :=
  ∀ (w : va_W) (H1 : Heap) (locs1 : List Loc) (ls1 : Array Slot), LInv X0 O E E2 Y Z Z2 y (j + 1) w → va_P D vwCl w H1 → va_D (lA s) w → va_S (lA s) s.heap H1 locs1 → lv_has ls1 9 [(4, .int (nI i)), (3, .ref O), (2, .ref (Y 0)), (1, .ref X0), (0, .ref sb)] → W p l e room_1 s m #[Value.ref sb] below meth cd H1 locs1 (cells + 58) (slots + 484) Q (F0 m 1267 ls1 [])
