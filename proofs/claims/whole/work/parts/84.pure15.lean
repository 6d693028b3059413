/-! the class's trial answers as the state itself -/
theorem copy_ag {t : Nat → Int32} {o : Nat → Nat} {q b : Fld} {c bc n : Nat} {ar fi re : Int32} {T : TS} : agN c c (q, b, bc, n, ar, fi, re) (nsT (copyT (t, o, q, b, c, bc, n, ar, fi, re) T)) :=
  ⟨⟨fun _ hi _ _ => cpN_lt _ _ hi, fun h => absurd h (Nat.lt_irrefl c)⟩, fun _ hi _ => cpN_lt _ _ hi, rfl⟩
theorem cpt7 {t t2 : Nat → Int32} : ∀ i, i < 7 → cpN 7 t t2 i = t i := fun _ hi => cpN_lt _ _ hi
theorem cpo6 {o o2 : Nat → Nat} {c : Nat} (hc : c ≤ 6) : ∀ i, i < c → cpN 6 o o2 i = o i := fun _ hi => cpN_lt _ _ (by omega)
theorem nsT_n (mm : Nat) (C : TS) : nsT (nightsT mm C) = nightsE C.1 C.2.1 C.2.2.2.2.1 mm (nsT C) := rfl
theorem trial_ag {t : Nat → Int32} {o : Nat → Nat} {q b : Fld} {c bc n : Nat} {ar fi re : Int32} {T : TS} (hc : c ≤ 6) (ho : ∀ i, i < c → o i < c) (mm : Nat) : agN c c (nightsE t o c mm (q, b, bc, n, ar, fi, re)) (nsT (nightsT mm (copyT (t, o, q, b, c, bc, n, ar, fi, re) T))) := by
  rw [nsT_n]
  exact nightsE_ax cpt7 ho (cpo6 hc) copy_ag mm
theorem nsT_it (C : TS) : ∀ k, nsT (itT k C) = nightsE C.1 C.2.1 C.2.2.2.2.1 k (nsT C)
  | 0 => rfl
  | k + 1 => by
    obtain ⟨h1, h2, h3⟩ := itT_o k C
    rw [itT_s, nsT_n, h1, h2, h3]
    show nightE C.1 C.2.1 C.2.2.2.2.1 (nsT (itT k C)) = nightE C.1 C.2.1 C.2.2.2.2.1 (nightsE C.1 C.2.1 C.2.2.2.2.1 k (nsT C))
    rw [nsT_it C k]
theorem it_ag {t : Nat → Int32} {o : Nat → Nat} {q b : Fld} {c bc n : Nat} {ar fi re : Int32} {T : TS} (hc : c ≤ 6) (ho : ∀ i, i < c → o i < c) (k : Nat) : agN c c (nightsE t o c k (q, b, bc, n, ar, fi, re)) (nsT (itT k (copyT (t, o, q, b, c, bc, n, ar, fi, re) T))) := by
  rw [nsT_it]
  exact nightsE_ax cpt7 ho (cpo6 hc) copy_ag k
theorem ax_at {c : Nat} {q q2 : Fld} (h : agX c c q q2) {i : Nat} (hi : i < c) (j : Nat) : q2 j i = q j i := h.1 i hi j (Or.inr (by omega))
/-- catches -/
theorem catches_eq {t : Nat → Int32} {o : Nat → Nat} {q b : Fld} {c bc n k : Nat} {ar fi re : Int32} {T : TS} (K : okN o q b c bc) (hk : k < c) : (catchT (copyT (t, o, q, b, c, bc, n, ar, fi, re) T)).2.2.1 5 k - q 5 k = (dnO (nI k) c 40 (q, runM t n, 0)).2.2 := by
  rw [catches_M K.c6 hk K.or K.op]
  have h0 : agX c c q (cp2 c q T.2.2.1) := ⟨fun _ hi _ _ => cpN_lt _ _ hi, fun h => absurd h (Nat.lt_irrefl c)⟩
  have h1 := (catchP_ax (o := o) (o2 := cpN 6 o T.2.1) (z := runI t n) (okO_lt K.or) (cpo6 K.c6) h0 c (Nat.le_refl c)).1
  have h2 : (catchT (copyT (t, o, q, b, c, bc, n, ar, fi, re) T)).2.2.1 = catchE (cpN 6 o T.2.1) (cp2 c q T.2.2.1) c (runI (cpN 7 t T.1) n) := rfl
  rw [h2, runI_ag cpt7]
  exact congrArg (fun z => z - q 5 k) (ax_at h1 hk 5)
/-- what nights bring, of class's trial and of the model ahead -/
theorem ahead_eq {t : Nat → Int32} {o : Nat → Nat} {q b b' : Fld} {c bc n : Nat} {ar fi re : Int32} (K : okN o q b c bc) (hr : ∀ a, 1 ≤ a → a ≤ 3 → b' a = b a) {a2 : Nst} {k : Nat} (h : agN c c (nightsE t o c k (q, b, bc, n, ar, fi, re)) a2) :
    agX c c (nightsM t c k (q, b', bc, n, ar, fi, re)).1 a2.1 ∧ a2.2.2 = (nightsM t c k (q, b', bc, n, ar, fi, re)).2.2 := by
  obtain ⟨q2, b2, b2', bc2, ar2, fi2, re2, e1, e2, _⟩ := nights_M (t := t) (n := n) (ar := ar) (fi := fi) (re := re) K hr k
  rw [e1] at h
  rw [e2]
  exact ⟨h.1, h.2.2⟩
theorem fore_eq {t : Nat → Int32} {o : Nat → Nat} {q b b' : Fld} {c bc n : Nat} {ar fi re : Int32} {T : TS} (K : okN o q b c bc) (hr : ∀ a, 1 ≤ a → a ≤ 3 → b' a = b a) (mm : Nat) :
    heldN (nightsT mm (copyT (t, o, q, b, c, bc, n, ar, fi, re) T)).2.2.1 (nightsT mm (copyT (t, o, q, b, c, bc, n, ar, fi, re) T)).2.2.2.2.1 = heldN (nightsM t c mm (q, b', bc, n, ar, fi, re)).1 c ∧
    (nightsT mm (copyT (t, o, q, b, c, bc, n, ar, fi, re) T)).2.2.2.2.2.2.2.1 = (nightsM t c mm (q, b', bc, n, ar, fi, re)).2.2.2.2.1 ∧
    (nightsT mm (copyT (t, o, q, b, c, bc, n, ar, fi, re) T)).2.2.2.2.2.2.2.2.1 = (nightsM t c mm (q, b', bc, n, ar, fi, re)).2.2.2.2.2.1 ∧
    (nightsT mm (copyT (t, o, q, b, c, bc, n, ar, fi, re) T)).2.2.2.2.2.2.2.2.2 = (nightsM t c mm (q, b', bc, n, ar, fi, re)).2.2.2.2.2.2 ∧
    eelsN (nightsT mm (copyT (t, o, q, b, c, bc, n, ar, fi, re) T)).2.2.1 (nightsT mm (copyT (t, o, q, b, c, bc, n, ar, fi, re) T)).2.2.2.2.1 = eelsN (nightsM t c mm (q, b', bc, n, ar, fi, re)).1 c := by
  obtain ⟨h1, h2⟩ := ahead_eq K hr (trial_ag (t := t) (n := n) (ar := ar) (fi := fi) (re := re) (T := T) K.c6 (okO_lt K.or) mm)
  refine ⟨heldN_ax h1 c (Nat.le_refl c), ?_, ?_, ?_, eelsN_ax h1 c (Nat.le_refl c)⟩
  · exact congrArg (fun z => z.2.2.1) h2
  · exact congrArg (fun z => z.2.2.2.1) h2
  · exact congrArg (fun z => z.2.2.2.2) h2
