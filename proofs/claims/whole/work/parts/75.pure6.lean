theorem lvE_g (b : Fld) : ∀ k, ∃ g : Nat → Nat, (∀ i, i < (lvE b k).2 → g i < k ∧ b 2 (g i) < 39 ∧ ∀ j, (lvE b k).1 j i = b j (g i)) ∧ (∀ i i', i < i' → i' < (lvE b k).2 → g i < g i') ∧ (∀ x, x < k → b 2 x < 39 → ∃ i, i < (lvE b k).2 ∧ g i = x) := by
  intro k
  induction k with
  | zero => exact ⟨fun i => i, fun i h => absurd h (Nat.not_lt_zero i), fun i i' _ h => absurd h (Nat.not_lt_zero i'), fun x h => absurd h (Nat.not_lt_zero x)⟩
  | succ k ih =>
    obtain ⟨g, h1, h2, h3⟩ := ih
    have hle := lvE_le b k
    have loc : ∀ j, (lvE b k).1 j k = b j k := fun j => lvE_k b j k k (Nat.le_refl k)
    by_cases hlt : b 2 k < 39
    · have e : lvE b (k + 1) = (cpF (lvE b k).1 (lvE b k).2 (lvE b k).1 k, (lvE b k).2 + 1) := by
        rw [lvE_s]; unfold lvS; rw [loc 2, if_pos hlt]
      rw [e]
      refine ⟨fun i => if i = (lvE b k).2 then k else g i, ?_, ?_, ?_⟩
      · intro i hi
        dsimp only
        by_cases h : i = (lvE b k).2
        · rw [if_pos h]
          exact ⟨by omega, hlt, fun j => by rw [h]; exact (cpF_s _ _ _ _ _).trans (loc j)⟩
        · rw [if_neg h]
          obtain ⟨a1, a2, a3⟩ := h1 i (by have : i < (lvE b k).2 + 1 := hi; omega)
          exact ⟨by omega, a2, fun j => (cpF_k _ _ _ _ _ _ h).trans (a3 j)⟩
      · intro i i' hii hi'
        have hi2 : i' < (lvE b k).2 + 1 := hi'
        dsimp only
        by_cases h : i' = (lvE b k).2
        · rw [if_pos h, if_neg (by omega)]; exact (h1 i (by omega)).1
        · rw [if_neg h, if_neg (by omega)]; exact h2 i i' hii (by omega)
      · intro x hx hx2
        rcases Nat.lt_or_eq_of_le (Nat.lt_succ_iff.mp hx) with h | h
        · obtain ⟨i, a1, a2⟩ := h3 x h hx2
          exact ⟨i, Nat.lt_succ_of_lt a1, by dsimp only; rw [if_neg (by omega)]; exact a2⟩
        · exact ⟨(lvE b k).2, Nat.lt_succ_self _, by dsimp only; rw [if_pos rfl, h]⟩
    · have e : lvE b (k + 1) = lvE b k := by
        rw [lvE_s]; unfold lvS; rw [loc 2, if_neg hlt]
      rw [e]
      refine ⟨g, fun i hi => ?_, h2, fun x hx hx2 => ?_⟩
      · obtain ⟨a1, a2, a3⟩ := h1 i hi; exact ⟨by omega, a2, a3⟩
      · rcases Nat.lt_or_eq_of_le (Nat.lt_succ_iff.mp hx) with h | h
        · exact h3 x h hx2
        · exact absurd hx2 (by rw [h]; exact hlt)
def okOw (q : Fld) (c : Nat) : Prop := ∀ i, i < c → ∃ o, o ≤ 3 ∧ q 7 i = nI o
def okPl (q : Fld) (c : Nat) : Prop := ∀ i, i < c → ∃ P, P < 40 ∧ q 0 i = nI P
theorem payW_r {q : Fld} {k a : Nat} (h4 : a ≠ 4) (h5 : a ≠ 5) (h7 : a ≠ 7) : payW q k a = q a := by
  unfold payW
  split
  · split
    · exact up2_r h7
    · rw [up2_r h5, up2_r h7]
  · rw [up2_r h7, up2_r h4]
theorem payW_7 {q : Fld} {k : Nat} (hh : heldB q k = true) (h : ∃ o, o ≤ 3 ∧ q 7 k = nI o) : ∃ o, o ≤ 3 ∧ payW q k 7 k = nI o := by
  obtain ⟨o, ho, e⟩ := h
  unfold heldB at hh
  rw [e] at hh
  have h9 := of_decide_eq_true hh
  have ho3 : o < 3 := (nI_lt_iff (b := 3) (by omega) (by omega)).mp h9
  unfold payW
  split
  · split
    · exact ⟨o + 1, by omega, by rw [up2_s, e]; exact nI_1 o⟩
    · exact ⟨o + 1, by omega, by rw [up2_j _ _ _ _ _ _ (show (7 : Nat) ≠ 5 by decide), up2_s, e]; exact nI_1 o⟩
  · exact ⟨0, by omega, up2_s _ _ _ _⟩
theorem rentE_ok {q : Fld} {re : Int32} {c : Nat} (h : okOw q c) : ∀ k, okOw (rentE q k re).1 c ∧ ∀ a, a ≠ 4 → a ≠ 5 → a ≠ 7 → (rentE q k re).1 a = q a
  | 0 => ⟨h, fun _ _ _ _ => rfl⟩
  | k + 1 => by
    obtain ⟨i1, i2⟩ := rentE_ok (re := re) h k
    rw [rentE_s]; unfold rentS
    by_cases hh : heldB (rentE q k re).1 k = true
    · rw [if_pos hh]
      refine ⟨fun i hi => ?_, fun a h4 h5 h7 => (payW_r h4 h5 h7).trans (i2 a h4 h5 h7)⟩
      by_cases hik : i = k
      · subst hik; exact payW_7 hh (i1 i hi)
      · obtain ⟨o, ho, e⟩ := i1 i hi; exact ⟨o, ho, (payW_k _ _ _ _ hik).trans e⟩
    · rw [if_neg hh]; exact ⟨i1, i2⟩
theorem rotE_ok {q : Fld} {n c : Nat} (h : okWt q c) : ∀ k, okWt (rotE q k n) c ∧ ∀ a, a ≠ 2 → (rotE q k n) a = q a := by
  intro k
  induction k with
  | zero => exact ⟨h, fun a _ => by have e : rotE q 0 n = q := rfl; rw [e]⟩
  | succ k ih =>
    obtain ⟨i1, i2⟩ := ih
    rw [rotE_s]
    split
    · refine ⟨fun i hi => ?_, fun a h2 => (loseW_r h2).trans (i2 a h2)⟩
      by_cases hik : i = k
      · subst hik
        obtain ⟨m, hm, hr⟩ := rotI_n n
        have e : loseW (rotE q i n) i (rotI n) 2 i = loseI ((rotE q i n) 2 i) (rotI n) := up2_s _ _ _ _
        rw [e, hr]; exact lose_ok (i1 i hi) hm
      · obtain ⟨w, hw, e⟩ := i1 i hi; exact ⟨w, hw, (loseW_k _ _ _ _ _ hik).trans e⟩
    · exact ⟨i1, i2⟩
theorem catchP_r {o : Nat → Nat} {q : Fld} {x : Int32} {a : Nat} (h : a ≠ 5) : ∀ k, (catchP o q k x).1 a = q a
  | 0 => rfl
  | k + 1 => by
    have ih := catchP_r (o := o) (q := q) (x := x) h k
    rw [catchP_s]; unfold catchS
    split
    · exact (up2_r h).trans ih
    · exact ih
theorem catchE_r {o : Nat → Nat} {q : Fld} {x : Int32} {a c : Nat} (h : a ≠ 5) : catchE o q c x a = q a := catchP_r h c
/-- all that the nights need, and keep -/
def okN (o : Nat → Nat) (q b : Fld) (c bc : Nat) : Prop := c ≤ 6 ∧ bc ≤ 5 ∧ okO o (q 0) c ∧ okPl q c ∧ okWt q c ∧ okp q c ∧ okOw q c ∧ okB b bc
section OKN
variable {o : Nat → Nat} {q b : Fld} {c bc : Nat}
theorem okN.c6 (h : okN o q b c bc) : c ≤ 6 := h.1
theorem okN.b5 (h : okN o q b c bc) : bc ≤ 5 := h.2.1
theorem okN.or (h : okN o q b c bc) : okO o (q 0) c := h.2.2.1
theorem okN.pl (h : okN o q b c bc) : okPl q c := h.2.2.2.1
theorem okN.wt (h : okN o q b c bc) : okWt q c := h.2.2.2.2.1
theorem okN.op (h : okN o q b c bc) : okp q c := h.2.2.2.2.2.1
theorem okN.ow (h : okN o q b c bc) : okOw q c := h.2.2.2.2.2.2.1
theorem okN.ba (h : okN o q b c bc) : okB b bc := h.2.2.2.2.2.2.2
end OKN
set_option maxHeartbeats 2000000 in
theorem night_M {t : Nat → Int32} {o : Nat → Nat} {q b b' : Fld} {c bc n : Nat} {ar fi re : Int32} (K : okN o q b c bc) (hr : ∀ a, 1 ≤ a → a ≤ 3 → b' a = b a) :
    ∃ (q2 b2 b2' : Fld) (bc2 : Nat) (ar2 fi2 re2 : Int32), nightE t o c (q, b, bc, n, ar, fi, re) = (q2, b2, bc2, n + 1, ar2, fi2, re2) ∧ nightM t c (q, b', bc, n, ar, fi, re) = (q2, b2', bc2, n + 1, ar2, fi2, re2) ∧ okN o q2 b2 c bc2 ∧ (∀ a, 1 ≤ a → a ≤ 3 → b2' a = b2 a) ∧ (∀ a, a = 0 ∨ a = 3 ∨ a = 6 → q2 a = q a) ∧ ar2 = ar + (nI bc - nI bc2) ∧ bc2 ≤ bc := by
  have hq1 : (dnO (-1) c 40 (q, runM t n, 0)).1 = catchE o q c (runI t n) := by rw [runM_I]; exact catch_M K.or K.op
  have hw1 : okWt (catchE o q c (runI t n)) c := fun i hi => by rw [catchE_r (by decide)]; exact K.wt i hi
  have hp1 : okPl (catchE o q c (runI t n)) c := fun i hi => by rw [catchE_r (by decide)]; exact K.pl i hi
  obtain ⟨m1, m2, m3, m4, m5, m6, m7, m8, _⟩ := upM_mov (fi := fi) K.c6 hw1 hp1 K.ba hr bc (Nat.le_refl bc)
  have hpl : ∀ i, i < bc → (movE (catchE o q c (runI t n)) b c bc fi).2.1 2 i < 39 ∨ (movE (catchE o q c (runI t n)) b c bc fi).2.1 2 i = 39 := by
    intro i hi
    obtain ⟨p, P, _, _, hP, e⟩ := m7 i hi
    rw [e]
    rcases Nat.lt_or_eq_of_le hP with h | h
    · exact Or.inl ((nI_lt_iff (b := 39) (by omega) (by omega)).mpr h)
    · exact Or.inr (by rw [h]; rfl)
  obtain ⟨l1, l2, l3⟩ := lvM_E (ar := ar) K.b5 m3 hpl bc (Nat.le_refl bc)
  obtain ⟨r1, r2⟩ := rotE_ok (n := n) m4 c
  have hrot := rotM_E (n := n) m4 c (Nat.le_refl c)
  have row : ∀ a, a ≠ 1 → a ≠ 2 → a ≠ 4 → a ≠ 5 → (rotE (movE (catchE o q c (runI t n)) b c bc fi).1 c n) a = q a := fun a h1 h2 h4 h5 => (r2 a h2).trans ((m5 a h1 h2 h4).trans (catchE_r h5))
  have how : okOw (rotE (movE (catchE o q c (runI t n)) b c bc fi).1 c n) c := fun i hi => by rw [row 7 (by decide) (by decide) (by decide) (by decide)]; exact K.ow i hi
  obtain ⟨n1, n2⟩ := rentE_ok (re := re) how c
  have hrent := rentM_E (rn := re) (c := c) how
  obtain ⟨g, g1, g2, g3⟩ := lvE_g (movE (catchE o q c (runI t n)) b c bc fi).2.1 bc
  have hba : okB (lvE (movE (catchE o q c (runI t n)) b c bc fi).2.1 bc).1 (lvE (movE (catchE o q c (runI t n)) b c bc fi).2.1 bc).2 := by
    intro i hi
    obtain ⟨a1, a2, a3⟩ := g1 i hi
    obtain ⟨p, P, _, _, hP, e⟩ := m7 (g i) a1
    rw [e] at a2
    have : P < 39 := (nI_lt_iff (b := 39) (by omega) (by omega)).mp a2
    exact ⟨P + 1, by omega, by rw [a3 2, e]; exact nI_1 P⟩
  have hle := lvE_le (movE (catchE o q c (runI t n)) b c bc fi).2.1 bc
  by_cases h13 : n % 14 = 13
  · refine ⟨(rentE (rotE (movE (catchE o q c (runI t n)) b c bc fi).1 c n) c re).1, (lvE (movE (catchE o q c (runI t n)) b c bc fi).2.1 bc).1, (lvM (upM c bc (catchE o q c (runI t n), b', fi)).2.1 bc ar).1, (lvE (movE (catchE o q c (runI t n)) b c bc fi).2.1 bc).2, ar + (nI bc - nI (lvE (movE (catchE o q c (runI t n)) b c bc fi).2.1 bc).2), (movE (catchE o q c (runI t n)) b c bc fi).2.2, (rentE (rotE (movE (catchE o q c (runI t n)) b c bc fi).1 c n) c re).2, ?_, ?_, ⟨K.c6, Nat.le_trans hle K.b5, ?_, ?_, ?_, ?_, n1, hba⟩, l2, ?_, rfl, hle⟩
    · unfold nightE; dsimp only; rw [if_pos h13]
    · unfold nightM; dsimp only; rw [if_pos h13, hq1, m1, m2, hrot, hrent, l1, l3]
    · show okO o ((rentE _ c re).1 0) c
      rw [n2 0 (by decide) (by decide) (by decide), row 0 (by decide) (by decide) (by decide) (by decide)]; exact K.or
    · intro i hi; rw [n2 0 (by decide) (by decide) (by decide), row 0 (by decide) (by decide) (by decide) (by decide)]; exact K.pl i hi
    · intro i hi; rw [n2 2 (by decide) (by decide) (by decide)]; exact r1 i hi
    · intro i hi; rw [n2 6 (by decide) (by decide) (by decide), row 6 (by decide) (by decide) (by decide) (by decide)]; exact K.op i hi
    · intro a ha
      exact (n2 a (by omega) (by omega) (by omega)).trans (row a (by omega) (by omega) (by omega) (by omega))
  · refine ⟨rotE (movE (catchE o q c (runI t n)) b c bc fi).1 c n, (lvE (movE (catchE o q c (runI t n)) b c bc fi).2.1 bc).1, (lvM (upM c bc (catchE o q c (runI t n), b', fi)).2.1 bc ar).1, (lvE (movE (catchE o q c (runI t n)) b c bc fi).2.1 bc).2, ar + (nI bc - nI (lvE (movE (catchE o q c (runI t n)) b c bc fi).2.1 bc).2), (movE (catchE o q c (runI t n)) b c bc fi).2.2, re, ?_, ?_, ⟨K.c6, Nat.le_trans hle K.b5, ?_, ?_, r1, ?_, how, hba⟩, l2, ?_, rfl, hle⟩
    · unfold nightE; dsimp only; rw [if_neg h13]
    · unfold nightM; dsimp only; rw [if_neg h13, hq1, m1, m2, hrot, l1, l3]
    · rw [row 0 (by decide) (by decide) (by decide) (by decide)]; exact K.or
    · intro i hi; rw [row 0 (by decide) (by decide) (by decide) (by decide)]; exact K.pl i hi
    · intro i hi; rw [row 6 (by decide) (by decide) (by decide) (by decide)]; exact K.op i hi
    · intro a ha
      exact row a (by omega) (by omega) (by omega) (by omega)
