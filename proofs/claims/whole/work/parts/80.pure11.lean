def okR (q b : Fld) (c bc : Nat) : Prop := okSt q c ∧ okEe q c ∧ okWd b bc
theorem night_R {t : Nat → Int32} {o : Nat → Nat} {q b : Fld} {c bc n : Nat} {ar fi re : Int32} (K : okN o q b c bc) (hT : okTb t) (hR : okR q b c bc) : okR (nightE t o c (q, b, bc, n, ar, fi, re)).1 (nightE t o c (q, b, bc, n, ar, fi, re)).2.1 c (nightE t o c (q, b, bc, n, ar, fi, re)).2.2.1 := by
  obtain ⟨h1, h5, hW⟩ := hR
  obtain ⟨X, hX, eX⟩ := runI_ok (n := n) hT
  have c5 : okEe (catchE o q c (runI t n)) c := by rw [eX]; exact (catchP_ok (okO_lt K.or) hX h1 K.wt h5 c (Nat.le_refl c)).1
  have c1 : okSt (catchE o q c (runI t n)) c := fun i hi => by rw [catchE_r (by decide)]; exact h1 i hi
  have cw : okWt (catchE o q c (runI t n)) c := fun i hi => by rw [catchE_r (by decide)]; exact K.wt i hi
  have cp : okPl (catchE o q c (runI t n)) c := fun i hi => by rw [catchE_r (by decide)]; exact K.pl i hi
  obtain ⟨m1, m2⟩ := movE_st (fi := fi) c1 hW bc (Nat.le_refl bc)
  obtain ⟨_, _, _, m4, m5, _⟩ := upM_mov (fi := fi) K.c6 cw cp K.ba (fun _ _ _ => rfl) bc (Nat.le_refl bc)
  obtain ⟨_, r2⟩ := rotE_ok (n := n) m4 c
  have s1 : okSt (rotE (movE (catchE o q c (runI t n)) b c bc fi).1 c n) c := fun i hi => by rw [r2 1 (by decide)]; exact m1 i hi
  have s5 : okEe (rotE (movE (catchE o q c (runI t n)) b c bc fi).1 c n) c := fun i hi => by rw [r2 5 (by decide), movE_r5]; exact c5 i hi
  have s7 : okOw (rotE (movE (catchE o q c (runI t n)) b c bc fi).1 c n) c := fun i hi => by
    rw [r2 7 (by decide), m5 7 (by decide) (by decide) (by decide), catchE_r (by decide)]; exact K.ow i hi
  have hWd : okWd (lvE (movE (catchE o q c (runI t n)) b c bc fi).2.1 bc).1 (lvE (movE (catchE o q c (runI t n)) b c bc fi).2.1 bc).2 := by
    obtain ⟨g, g1, _⟩ := lvE_g (movE (catchE o q c (runI t n)) b c bc fi).2.1 bc
    intro i hi
    obtain ⟨a1, _, a3⟩ := g1 i hi
    rw [a3 1, m2]; exact hW (g i) a1
  unfold nightE
  dsimp only
  by_cases h13 : n % 14 = 13
  · rw [if_pos h13]
    obtain ⟨_, n2⟩ := rentE_ok (re := re) s7 c
    exact ⟨fun i hi => by rw [n2 1 (by decide) (by decide) (by decide)]; exact s1 i hi, rentE_e s5 c, hWd⟩
  · rw [if_neg h13]
    exact ⟨s1, s5, hWd⟩
theorem nights_R {t : Nat → Int32} {o : Nat → Nat} {q b : Fld} {c bc n : Nat} {ar fi re : Int32} (K : okN o q b c bc) (hT : okTb t) (hR : okR q b c bc) : ∀ k, okR (nightsE t o c k (q, b, bc, n, ar, fi, re)).1 (nightsE t o c k (q, b, bc, n, ar, fi, re)).2.1 c (nightsE t o c k (q, b, bc, n, ar, fi, re)).2.2.1 := by
  intro k
  induction k with
  | zero => exact hR
  | succ k ih =>
    obtain ⟨q1, b1, _, bc1, ar1, fi1, re1, e1, _, K1, _⟩ := nights_M (t := t) (n := n) (ar := ar) (fi := fi) (re := re) K (b' := b) (fun _ _ _ => rfl) k
    rw [e1] at ih
    rw [nightsE_s, e1]
    exact night_R K1 hT ih
/-- a night carries every barge one place farther at least -/
theorem night_B {t : Nat → Int32} {o : Nat → Nat} {q b : Fld} {c bc n : Nat} {ar fi re : Int32} (K : okN o q b c bc) : ∃ g : Nat → Nat, (∀ i, i < (nightE t o c (q, b, bc, n, ar, fi, re)).2.2.1 → g i < bc ∧ (∃ p P, b 2 (g i) + 1 = nI p ∧ p ≤ P ∧ P < 39 ∧ (nightE t o c (q, b, bc, n, ar, fi, re)).2.1 2 i = nI P) ∧ (nightE t o c (q, b, bc, n, ar, fi, re)).2.1 0 i = b 0 (g i)) ∧ (∀ i i', i < i' → i' < (nightE t o c (q, b, bc, n, ar, fi, re)).2.2.1 → g i < g i') := by
  have cw : okWt (catchE o q c (runI t n)) c := fun i hi => by rw [catchE_r (by decide)]; exact K.wt i hi
  have cp : okPl (catchE o q c (runI t n)) c := fun i hi => by rw [catchE_r (by decide)]; exact K.pl i hi
  obtain ⟨_, _, _, _, _, _, m7, m8, _⟩ := upM_mov (fi := fi) K.c6 cw cp K.ba (fun _ _ _ => rfl) bc (Nat.le_refl bc)
  obtain ⟨g, g1, g2, _⟩ := lvE_g (movE (catchE o q c (runI t n)) b c bc fi).2.1 bc
  refine ⟨g, fun i hi => ?_, g2⟩
  have hi' : i < (lvE (movE (catchE o q c (runI t n)) b c bc fi).2.1 bc).2 := hi
  obtain ⟨a1, a2, a3⟩ := g1 i hi'
  obtain ⟨p, P, e1, e2, e3, e4⟩ := m7 (g i) a1
  refine ⟨a1, ⟨p, P, e1, e2, ?_, ?_⟩, ?_⟩
  · rw [e4] at a2
    exact (nI_lt_iff (b := 39) (by omega) (by omega)).mp a2
  · show (lvE (movE (catchE o q c (runI t n)) b c bc fi).2.1 bc).1 2 i = nI P
    rw [a3 2]; exact e4
  · show (lvE (movE (catchE o q c (runI t n)) b c bc fi).2.1 bc).1 0 i = b 0 (g i)
    rw [a3 0, m8 0 (by decide) (by decide)]
