theorem cpM_k (b : Fld) (m i a x : Nat) (h : x ≠ m) : cpM b m i a x = b a x := by
  unfold cpM
  rw [up2_k _ _ _ _ _ _ h, up2_k _ _ _ _ _ _ h, up2_k _ _ _ _ _ _ h, up2_k _ _ _ _ _ _ h]
theorem cpM_0 (b : Fld) (m i : Nat) : cpM b m i 0 m = b 0 i := up2_s _ _ _ _
theorem lvM_k (b : Fld) (ar : Int32) (a : Nat) : ∀ (k i : Nat), k ≤ i → (lvM b k ar).1 a i = b a i
  | 0, _, _ => rfl
  | k + 1, i, h => by
    have ih := lvM_k b ar a k i (by omega)
    have hle := lvM_le b k ar
    rw [lvM_s]; unfold lvMS
    split
    · exact ih
    · exact (cpM_k _ _ _ _ _ (by omega)).trans ih
/-- who stays, in both at once: the class's tickets, the model's numbers -/
theorem lv_both {b b' : Fld} {ar : Int32} {bc : Nat} (hbc : bc ≤ 5) (hr : ∀ j, 1 ≤ j → j ≤ 3 → b' j = b j) (hp : ∀ i, i < bc → b 2 i < 39 ∨ b 2 i = 39) : ∀ k, k ≤ bc → ∃ g : Nat → Nat, (∀ i, i < (lvE b k).2 → g i < k ∧ b 2 (g i) < 39 ∧ (∀ j, (lvE b k).1 j i = b j (g i)) ∧ (lvM b' k ar).1 0 i = b' 0 (g i)) ∧ (∀ i i', i < i' → i' < (lvE b k).2 → g i < g i') := by
  intro k
  induction k with
  | zero => intro _; exact ⟨fun i => i, fun i h => absurd h (Nat.not_lt_zero i), fun i i' _ h => absurd h (Nat.not_lt_zero i')⟩
  | succ k ih =>
    intro hk
    obtain ⟨g, h1, h2⟩ := ih (by omega)
    obtain ⟨e1, e2, _⟩ := lvM_E (ar := ar) hbc hr hp k (by omega)
    have hle := lvE_le b k
    have loc : ∀ j, (lvE b k).1 j k = b j k := fun j => lvE_k b j k k (Nat.le_refl k)
    have locM : ∀ j, (lvM b' k ar).1 j k = b' j k := fun j => lvM_k b' ar j k k (Nat.le_refl k)
    have hb2 : b' 2 = b 2 := hr 2 (by omega) (by omega)
    rcases hp k (by omega) with hlt | h39
    · have e : lvE b (k + 1) = (cpF (lvE b k).1 (lvE b k).2 (lvE b k).1 k, (lvE b k).2 + 1) := by
        rw [lvE_s]; unfold lvS; rw [loc 2, if_pos hlt]
      have eM : (lvM b' (k + 1) ar).1 = cpM (lvM b' k ar).1 (lvE b k).2 k := by
        rw [lvM_s]; unfold lvMS; rw [locM 2, hb2, if_neg (fun h9 => absurd hlt (by rw [h9]; decide)), e1]
      rw [e, eM]
      refine ⟨fun i => if i = (lvE b k).2 then k else g i, ?_, ?_⟩
      · intro i hi
        dsimp only
        by_cases h : i = (lvE b k).2
        · rw [if_pos h]
          exact ⟨by omega, hlt, fun j => by rw [h]; exact (cpF_s _ _ _ _ _).trans (loc j), by rw [h]; exact (cpM_0 _ _ _).trans (locM 0)⟩
        · rw [if_neg h]
          obtain ⟨a1, a2, a3, a4⟩ := h1 i (by have : i < (lvE b k).2 + 1 := hi; omega)
          exact ⟨by omega, a2, fun j => (cpF_k _ _ _ _ _ _ h).trans (a3 j), (cpM_k _ _ _ _ _ h).trans a4⟩
      · intro i i' hii hi'
        dsimp only
        have hi2 : i' < (lvE b k).2 + 1 := hi'
        by_cases h : i' = (lvE b k).2
        · rw [if_pos h, if_neg (by omega)]; exact (h1 i (by omega)).1
        · rw [if_neg h, if_neg (by omega)]; exact h2 i i' hii (by omega)
    · have e : lvE b (k + 1) = lvE b k := by
        rw [lvE_s]; unfold lvS; rw [loc 2, if_neg (by rw [h39]; decide)]
      have eM : (lvM b' (k + 1) ar).1 = (lvM b' k ar).1 := by
        rw [lvM_s]; unfold lvMS; rw [locM 2, hb2, if_pos h39]
      rw [e, eM]
      exact ⟨g, fun i hi => by obtain ⟨a1, a2⟩ := h1 i hi; exact ⟨by omega, a2⟩, h2⟩
theorem guS_0 {c j : Nat} {a : Gst} : (guS c j a).2.1 0 = a.2.1 0 := by
  unfold guS; dsimp only
  rw [up2_r (by decide), up2_r (by decide)]
theorem guE_0 {c j : Nat} : ∀ (m : Nat) (a : Gst), (guE c j m a).2.1 0 = a.2.1 0
  | 0, _ => rfl
  | m + 1, a => by
    rw [guE_s]
    split
    · split
      · exact (guE_0 m _).trans guS_0
      · exact guS_0
    · rfl
theorem upM_0 {c : Nat} {a : Gst} : ∀ k, (upM c k a).2.1 0 = a.2.1 0
  | 0 => rfl
  | k + 1 => by rw [upM_s]; exact (guE_0 5 _).trans (upM_0 k)
/-- a night: who stays goes on, by at least a place; tickets and numbers go with it -/
theorem night_W {t : Nat → Int32} {o : Nat → Nat} {q b b' : Fld} {c bc n : Nat} {ar fi re : Int32} (K : okN o q b c bc) (hr : ∀ a, 1 ≤ a → a ≤ 3 → b' a = b a) : ∃ g : Nat → Nat, (∀ i, i < (nightE t o c (q, b, bc, n, ar, fi, re)).2.2.1 → g i < bc ∧ (∃ p P, b 2 (g i) + 1 = nI p ∧ p ≤ P ∧ P < 39 ∧ (nightE t o c (q, b, bc, n, ar, fi, re)).2.1 2 i = nI P) ∧ (nightE t o c (q, b, bc, n, ar, fi, re)).2.1 0 i = b 0 (g i) ∧ (nightM t c (q, b', bc, n, ar, fi, re)).2.1 0 i = b' 0 (g i)) ∧ (∀ i i', i < i' → i' < (nightE t o c (q, b, bc, n, ar, fi, re)).2.2.1 → g i < g i') := by
  have hq1 : (dnO (-1) c 40 (q, runM t n, 0)).1 = catchE o q c (runI t n) := by rw [runM_I]; exact catch_M K.or K.op
  have cw : okWt (catchE o q c (runI t n)) c := fun i hi => by rw [catchE_r (by decide)]; exact K.wt i hi
  have cp : okPl (catchE o q c (runI t n)) c := fun i hi => by rw [catchE_r (by decide)]; exact K.pl i hi
  obtain ⟨_, _, m3, _, _, _, m7, m8, _⟩ := upM_mov (fi := fi) K.c6 cw cp K.ba hr bc (Nat.le_refl bc)
  have hpl : ∀ i, i < bc → (movE (catchE o q c (runI t n)) b c bc fi).2.1 2 i < 39 ∨ (movE (catchE o q c (runI t n)) b c bc fi).2.1 2 i = 39 := by
    intro i hi
    obtain ⟨p, P, _, _, hP, e⟩ := m7 i hi
    rw [e]
    rcases Nat.lt_or_eq_of_le hP with h | h
    · exact Or.inl ((nI_lt_iff (b := 39) (by omega) (by omega)).mpr h)
    · exact Or.inr (by rw [h]; rfl)
  obtain ⟨g, g1, g2⟩ := lv_both (ar := ar) K.b5 m3 hpl bc (Nat.le_refl bc)
  refine ⟨g, fun i hi => ?_, g2⟩
  have hi' : i < (lvE (movE (catchE o q c (runI t n)) b c bc fi).2.1 bc).2 := hi
  obtain ⟨a1, a2, a3, a4⟩ := g1 i hi'
  obtain ⟨p, P, e1, e2, e3, e4⟩ := m7 (g i) a1
  refine ⟨a1, ⟨p, P, e1, e2, ?_, ?_⟩, ?_, ?_⟩
  · rw [e4] at a2
    exact (nI_lt_iff (b := 39) (by omega) (by omega)).mp a2
  · show (lvE (movE (catchE o q c (runI t n)) b c bc fi).2.1 bc).1 2 i = nI P
    rw [a3 2]; exact e4
  · show (lvE (movE (catchE o q c (runI t n)) b c bc fi).2.1 bc).1 0 i = b 0 (g i)
    rw [a3 0, m8 0 (by decide) (by decide)]
  · show (lvM (upM c bc ((dnO (-1) c 40 (q, runM t n, 0)).1, b', fi)).2.1 bc ar).1 0 i = b' 0 (g i)
    rw [hq1, a4, upM_0]
