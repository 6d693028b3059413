/-! alike below c, but for the stakes of a weir x that doesn't fish -/
def agX (c x : Nat) (q q2 : Fld) : Prop := (∀ i, i < c → ∀ j, (j ≠ 1 ∨ i ≠ x) → q2 j i = q j i) ∧ (x < c → fishB q x = false)
theorem up2_fish {q : Fld} {j k x : Nat} {z : Int32} (h6 : j ≠ 6) (h7 : j ≠ 7) : fishB (up2 q j k z) x = fishB q x := by
  unfold fishB; rw [up2_r (Ne.symm h6), up2_r (Ne.symm h7)]
theorem up2_ax {c x j k : Nat} {q q2 : Fld} {z : Int32} (h6 : j ≠ 6) (h7 : j ≠ 7) (h : agX c x q q2) : agX c x (up2 q j k z) (up2 q2 j k z) := by
  refine ⟨?_, fun hx => by rw [up2_fish h6 h7]; exact h.2 hx⟩
  intro i hi a ha
  by_cases hik : i = k
  · subst hik
    by_cases haj : a = j
    · subst haj; rw [up2_s, up2_s]
    · rw [up2_j _ _ _ _ _ _ haj, up2_j _ _ _ _ _ _ haj]; exact h.1 i hi a ha
  · rw [up2_k _ _ _ _ _ _ hik, up2_k _ _ _ _ _ _ hik]; exact h.1 i hi a ha
theorem fish_ax {c x k : Nat} {q q2 : Fld} (h : agX c x q q2) (hk : k < c) : fishB q2 k = fishB q k := by
  unfold fishB; rw [h.1 k hk 7 (Or.inl (by decide)), h.1 k hk 6 (Or.inl (by decide))]
theorem held_ax {c x k : Nat} {q q2 : Fld} (h : agX c x q q2) (hk : k < c) : heldB q2 k = heldB q k := held_c (h.1 k hk 7 (Or.inl (by decide)))
theorem way_ax {c x k : Nat} {q q2 : Fld} {w : Int32} (h : agX c x q q2) (hk : k < c) : wayB q2 k w = wayB q k w := by
  unfold wayB
  rw [fish_ax h hk]
  by_cases hx : k = x
  · rw [hx, h.2 (by omega), Bool.false_and, Bool.false_and]
  · rw [h.1 k hk 1 (Or.inr hx)]
theorem caught_ax {c x k : Nat} {q q2 : Fld} {z : Int32} (h : agX c x q q2) (hk : k < c) (hf : fishB q k = true) : caughtI q2 k z = caughtI q k z := by
  have hx : k ≠ x := fun e => by
    have := h.2 (by omega)
    rw [← e, hf] at this; exact Bool.noConfusion this
  unfold caughtI; rw [h.1 k hk 1 (Or.inr hx), h.1 k hk 2 (Or.inr hx), h.1 k hk 5 (Or.inr hx)]
theorem catchP_ax {o o2 : Nat → Nat} {q q2 : Fld} {c x : Nat} {z : Int32} (ho : ∀ i, i < c → o i < c) (hoo : ∀ i, i < c → o2 i = o i) (h : agX c x q q2) : ∀ k, k ≤ c → agX c x (catchP o q k z).1 (catchP o2 q2 k z).1 ∧ (catchP o2 q2 k z).2 = (catchP o q k z).2
  | 0, _ => ⟨h, rfl⟩
  | k + 1, hk => by
    obtain ⟨i1, i2⟩ := catchP_ax (z := z) ho hoo h k (by omega)
    have hok := ho k (by omega)
    rw [catchP_s, catchP_s]; unfold catchS
    rw [hoo k (by omega), fish_ax i1 hok, i2]
    by_cases hf : fishB (catchP o q k z).1 (o k) = true
    · rw [if_pos hf, if_pos hf]
      unfold catchW
      rw [caught_ax i1 hok hf, i1.1 (o k) hok 5 (Or.inl (by decide))]
      exact ⟨up2_ax (by decide) (by decide) i1, rfl⟩
    · rw [if_neg hf, if_neg hf]; exact ⟨i1, i2⟩
theorem loseW_ax {c x k : Nat} {q q2 : Fld} {m : Int32} (h : agX c x q q2) (hk : k < c) : agX c x (loseW q k m) (loseW q2 k m) := by
  unfold loseW; rw [h.1 k hk 2 (Or.inl (by decide))]; exact up2_ax (by decide) (by decide) h
theorem breakW_ax {c x k : Nat} {q q2 : Fld} {w : Int32} (h : agX c x q q2) (hk : k < c) : agX c x (breakW q k w) (breakW q2 k w) := by
  unfold breakW fineI
  rw [h.1 k hk 4 (Or.inl (by decide))]
  exact up2_ax (by decide) (by decide) (loseW_ax (up2_ax (by decide) (by decide) h) hk)
theorem brkE_ax {q q2 : Fld} {c x : Nat} {bp bw fi br : Int32} (h : agX c x q q2) : ∀ k, k ≤ c → agX c x (brkE q k bp bw fi br).1 (brkE q2 k bp bw fi br).1 ∧ (brkE q2 k bp bw fi br).2 = (brkE q k bp bw fi br).2
  | 0, _ => ⟨h, rfl⟩
  | k + 1, hk => by
    obtain ⟨i1, i2⟩ := brkE_ax (bp := bp) (bw := bw) (fi := fi) (br := br) h k (by omega)
    have hkc : k < c := by omega
    rw [brkE_s, brkE_s]; unfold brkS
    rw [i1.1 k hkc 0 (Or.inl (by decide)), way_ax i1 hkc]
    split
    · split
      · unfold fineI
        rw [i2, i1.1 k hkc 4 (Or.inl (by decide))]
        exact ⟨breakW_ax i1 hkc, rfl⟩
      · exact ⟨i1, i2⟩
    · exact ⟨i1, i2⟩
theorem nextE_ax {q q2 : Fld} {c x : Nat} {bp bw : Int32} (h : agX c x q q2) : ∀ k, k ≤ c → nextE q2 k bp bw = nextE q k bp bw := by
  intro k
  induction k with
  | zero =>
    intro _
    have h1 : nextE q2 0 bp bw = (-1, 40) := rfl
    have h2 : nextE q 0 bp bw = (-1, 40) := rfl
    rw [h1, h2]
  | succ k ih =>
    intro hk
    have e1 : q2 0 k = q 0 k := h.1 k (by omega) 0 (Or.inl (by decide))
    have e2 : wayB q2 k bw = wayB q k bw := way_ax h (by omega)
    rw [nextE_s, nextE_s, ih (by omega)]
    unfold nextS
    rw [e1, e2]
theorem movE_ax {q q2 b b2 : Fld} {c x bc : Nat} {fi : Int32} (h : agX c x q q2) (hb : agW bc b b2) : ∀ k, k ≤ bc → agX c x (movE q b c k fi).1 (movE q2 b2 c k fi).1 ∧ agW bc (movE q b c k fi).2.1 (movE q2 b2 c k fi).2.1 ∧ (movE q2 b2 c k fi).2.2 = (movE q b c k fi).2.2
  | 0, _ => ⟨h, hb, rfl⟩
  | k + 1, hk => by
    obtain ⟨i1, i2, i3⟩ := movE_ax (fi := fi) h hb k (by omega)
    have hkb : k < bc := by omega
    rw [movE_s, movE_s]; unfold movS; dsimp only
    rw [i2 k hkb 2, i2 k hkb 1, i2 k hkb 3, i3, nextE_ax i1 c (Nat.le_refl c)]
    obtain ⟨r1, r2⟩ := brkE_ax (bp := minI ((movE q b c k fi).2.1 2 k + 5) (farI (nextE (movE q b c k fi).1 c ((movE q b c k fi).2.1 2 k) ((movE q b c k fi).2.1 1 k)))) (bw := (movE q b c k fi).2.1 1 k) (fi := (movE q b c k fi).2.2) (br := (movE q b c k fi).2.1 3 k) i1 c (Nat.le_refl c)
    rw [r2]
    exact ⟨r1, up2_ag (up2_ag i2), rfl⟩
theorem cpF_ag {b b2 : Fld} {bc m i : Nat} (h : agW bc b b2) (hi : i < bc) : agW bc (cpF b m b i) (cpF b2 m b2 i) := by
  intro a ha j
  by_cases ham : a = m
  · rw [ham, cpF_s, cpF_s]; exact h i hi j
  · rw [cpF_k _ _ _ _ _ _ ham, cpF_k _ _ _ _ _ _ ham]; exact h a ha j
theorem lvE_ag {b b2 : Fld} {bc : Nat} (h : agW bc b b2) : ∀ k, k ≤ bc → agW bc (lvE b k).1 (lvE b2 k).1 ∧ (lvE b2 k).2 = (lvE b k).2
  | 0, _ => ⟨h, rfl⟩
  | k + 1, hk => by
    obtain ⟨i1, i2⟩ := lvE_ag h k (by omega)
    rw [lvE_s, lvE_s]; unfold lvS
    rw [i1 k (by omega) 2, i2]
    split
    · exact ⟨cpF_ag i1 (by omega), rfl⟩
    · exact ⟨i1, i2⟩
theorem rotE_ax {q q2 : Fld} {c x n : Nat} (h : agX c x q q2) : ∀ k, k ≤ c → agX c x (rotE q k n) (rotE q2 k n) := by
  intro k
  induction k with
  | zero => intro _; exact h
  | succ k ih =>
    intro hk
    have i1 := ih (by omega)
    rw [rotE_s, rotE_s, held_ax i1 (by omega)]
    split
    · exact loseW_ax i1 (by omega)
    · exact i1
theorem payW_fish {q : Fld} {k x : Nat} (hh : heldB q k = true) (hf : fishB q x = false) : fishB (payW q k) x = false := by
  by_cases hx : x = k
  · subst hx
    have h6 : decide (q 6 x = 0) = false := by
      unfold fishB at hf
      unfold heldB at hh
      rw [hh, Bool.true_and] at hf; exact hf
    unfold fishB
    rw [payW_r (show (6 : Nat) ≠ 4 by decide) (by decide) (by decide), h6, Bool.and_false]
  · unfold fishB at hf ⊢
    rw [payW_k _ _ _ _ hx, payW_k _ _ _ _ hx]; exact hf
theorem payW_ax {c x k : Nat} {q q2 : Fld} (h : agX c x q q2) (hk : k < c) (hh : heldB q k = true) : agX c x (payW q k) (payW q2 k) := by
  refine ⟨?_, fun hx => payW_fish hh (h.2 hx)⟩
  intro i hi a ha
  by_cases hik : i = k
  · subst hik
    have e3 := h.1 i hi 3 (Or.inl (by decide))
    have e4 := h.1 i hi 4 (Or.inl (by decide))
    have e7 := h.1 i hi 7 (Or.inl (by decide))
    have ea := h.1 i hi a ha
    unfold payW
    rw [e3, e4, e7]
    have key : ∀ (j : Nat) (z : Int32) (p p2 : Fld), p2 a i = p a i → up2 p2 j i z a i = up2 p j i z a i := by
      intro j z p p2 hp
      by_cases haj : a = j
      · subst haj; rw [up2_s, up2_s]
      · rw [up2_j _ _ _ _ _ _ haj, up2_j _ _ _ _ _ _ haj]; exact hp
    split
    · split
      · exact key _ _ _ _ ea
      · exact key _ _ _ _ (key _ _ _ _ ea)
    · exact key _ _ _ _ (key _ _ _ _ ea)
  · rw [payW_k _ _ _ _ hik, payW_k _ _ _ _ hik]; exact h.1 i hi a ha
theorem paid_ax {c x k : Nat} {q q2 : Fld} (h : agX c x q q2) (hk : k < c) : paidI q2 k = paidI q k := by
  unfold paidI; rw [h.1 k hk 3 (Or.inl (by decide)), h.1 k hk 4 (Or.inl (by decide))]
theorem rentE_ax {q q2 : Fld} {re : Int32} {c x : Nat} (h : agX c x q q2) : ∀ k, k ≤ c → agX c x (rentE q k re).1 (rentE q2 k re).1 ∧ (rentE q2 k re).2 = (rentE q k re).2
  | 0, _ => ⟨h, rfl⟩
  | k + 1, hk => by
    obtain ⟨i1, i2⟩ := rentE_ax (re := re) h k (by omega)
    rw [rentE_s, rentE_s]; unfold rentS
    rw [held_ax i1 (by omega), i2, paid_ax i1 (by omega)]
    by_cases hh : heldB (rentE q k re).1 k = true
    · rw [if_pos hh, if_pos hh]; exact ⟨payW_ax i1 (by omega) hh, rfl⟩
    · rw [if_neg hh, if_neg hh]; exact ⟨i1, i2⟩
def agN (c x : Nat) (a a2 : Nst) : Prop := agX c x a.1 a2.1 ∧ agW a.2.2.1 a.2.1 a2.2.1 ∧ a2.2.2 = a.2.2
theorem runI_ag {t t2 : Nat → Int32} {n : Nat} (h : ∀ i, i < 7 → t2 i = t i) : runI t2 n = runI t n := by
  unfold runI; rw [h (n % 7) (Nat.mod_lt n (by decide))]
theorem nightE_ax {t t2 : Nat → Int32} {o o2 : Nat → Nat} {c x : Nat} (ht : ∀ i, i < 7 → t2 i = t i) (ho : ∀ i, i < c → o i < c) (hoo : ∀ i, i < c → o2 i = o i) : ∀ {a a2 : Nst}, agN c x a a2 → agN c x (nightE t o c a) (nightE t2 o2 c a2)
  | (q, b, bc, n, ar, fi, re), (q2, b2, bc2, n2, ar2, fi2, re2), ⟨h1, h2, h3⟩ => by
    have h3' : ((bc2, n2, ar2, fi2, re2) : Nat × Nat × Int32 × Int32 × Int32) = (bc, n, ar, fi, re) := h3
    obtain ⟨rfl, rfl, rfl, rfl, rfl⟩ : bc2 = bc ∧ n2 = n ∧ ar2 = ar ∧ fi2 = fi ∧ re2 = re := by
      injection h3' with e1 e2; injection e2 with e2 e3; injection e3 with e3 e4; injection e4 with e4 e5
      exact ⟨e1, e2, e3, e4, e5⟩
    have c1 : agX c x (catchE o q c (runI t n2)) (catchE o2 q2 c (runI t2 n2)) := by
      rw [runI_ag ht]; exact (catchP_ax ho hoo h1 c (Nat.le_refl c)).1
    obtain ⟨m1, m2, m3⟩ := movE_ax (fi := fi2) c1 (show agW bc2 b b2 from h2) bc2 (Nat.le_refl bc2)
    obtain ⟨l1, l2⟩ := lvE_ag m2 bc2 (Nat.le_refl bc2)
    have r1 := rotE_ax (n := n2) m1 c (Nat.le_refl c)
    obtain ⟨p1, p2⟩ := rentE_ax (re := re2) r1 c (Nat.le_refl c)
    have hle := lvE_le (movE (catchE o q c (runI t n2)) b c bc2 fi2).2.1 bc2
    have l3 : agW (lvE (movE (catchE o q c (runI t n2)) b c bc2 fi2).2.1 bc2).2 (lvE (movE (catchE o q c (runI t n2)) b c bc2 fi2).2.1 bc2).1 (lvE (movE (catchE o2 q2 c (runI t2 n2)) b2 c bc2 fi2).2.1 bc2).1 := fun i hi j => l1 i (Nat.lt_of_lt_of_le hi hle) j
    unfold nightE
    dsimp only
    by_cases h13 : n2 % 14 = 13
    · rw [if_pos h13, if_pos h13]
      refine ⟨p1, l3, ?_⟩
      dsimp only
      rw [l2, m3, p2]
    · rw [if_neg h13, if_neg h13]
      refine ⟨r1, l3, ?_⟩
      dsimp only
      rw [l2, m3]
theorem nightsE_ax {t t2 : Nat → Int32} {o o2 : Nat → Nat} {c x : Nat} (ht : ∀ i, i < 7 → t2 i = t i) (ho : ∀ i, i < c → o i < c) (hoo : ∀ i, i < c → o2 i = o i) {a a2 : Nst} (h : agN c x a a2) : ∀ k, agN c x (nightsE t o c k a) (nightsE t2 o2 c k a2) := by
  intro k
  induction k with
  | zero => exact h
  | succ k ih => rw [nightsE_s, nightsE_s]; exact nightE_ax ht ho hoo ih
theorem heldN_ax {q q2 : Fld} {c x : Nat} (h : agX c x q q2) : ∀ k, k ≤ c → heldN q2 k = heldN q k := by
  intro k
  induction k with
  | zero =>
    intro _
    have h1 : heldN q2 0 = 0 := rfl
    have h2 : heldN q 0 = 0 := rfl
    rw [h1, h2]
  | succ k ih =>
    intro hk
    rw [heldN_s, heldN_s, ih (by omega), held_ax h (by omega)]
theorem eelsN_ax {q q2 : Fld} {c x : Nat} (h : agX c x q q2) : ∀ k, k ≤ c → eelsN q2 k = eelsN q k := by
  intro k
  induction k with
  | zero =>
    intro _
    have h1 : eelsN q2 0 = 0 := rfl
    have h2 : eelsN q 0 = 0 := rfl
    rw [h1, h2]
  | succ k ih =>
    intro hk
    rw [eelsN_s, eelsN_s, ih (by omega), h.1 k (by omega) 5 (Or.inl (by decide))]
