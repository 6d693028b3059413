theorem up2_r {q : Fld} {j k a : Nat} {x : Int32} (h : a ≠ j) : up2 q j k x a = q a := by unfold up2; rw [if_neg h]
theorem loseW_r {q : Fld} {k a : Nat} {m : Int32} (h : a ≠ 2) : loseW q k m a = q a := up2_r h
theorem breakW_r {q : Fld} {k a : Nat} {w : Int32} (h1 : a ≠ 1) (h2 : a ≠ 2) (h4 : a ≠ 4) : breakW q k w a = q a := by
  unfold breakW; rw [up2_r h4, loseW_r h2, up2_r h1]
theorem breakW_2 (q : Fld) (k : Nat) (w : Int32) : breakW q k w 2 k = loseI (q 2 k) 20 := by
  unfold breakW
  rw [up2_r (show (2 : Nat) ≠ 4 by decide)]
  show up2 (up2 q 1 k (30 - w)) 2 k _ 2 k = _
  rw [up2_s]
  rfl
theorem brkE_r {q : Fld} {bp bw fi br : Int32} {a : Nat} (h1 : a ≠ 1) (h2 : a ≠ 2) (h4 : a ≠ 4) : ∀ k, (brkE q k bp bw fi br).1 a = q a
  | 0 => rfl
  | k + 1 => by
    have ih := brkE_r (q := q) (bp := bp) (bw := bw) (fi := fi) (br := br) h1 h2 h4 k
    rw [brkE_s]; unfold brkS
    split
    · split
      · exact (breakW_r h1 h2 h4).trans ih
      · exact ih
    · exact ih
def okWt (q : Fld) (c : Nat) : Prop := ∀ i, i < c → ∃ w, w ≤ 100 ∧ q 2 i = nI w
theorem brkE_w {q : Fld} {bp bw fi br : Int32} {c : Nat} (h : okWt q c) : ∀ k, okWt (brkE q k bp bw fi br).1 c
  | 0 => h
  | k + 1 => by
    have ih := brkE_w (bp := bp) (bw := bw) (fi := fi) (br := br) h k
    rw [brkE_s]; unfold brkS
    split
    · split
      · intro i hi
        by_cases hik : i = k
        · subst hik; rw [show (breakW (brkE q i bp bw fi br).1 i bw, (brkE q i bp bw fi br).2.1 + fineI (brkE q i bp bw fi br).1 i, (brkE q i bp bw fi br).2.2 + 1).1 2 i = loseI ((brkE q i bp bw fi br).1 2 i) 20 from breakW_2 _ _ _]; exact lose_ok (m := 20) (ih i hi) (by omega)
        · obtain ⟨w, h1, h2⟩ := ih i hi
          exact ⟨w, h1, (breakW_k _ _ _ _ _ hik).trans h2⟩
      · exact ih
    · exact ih
theorem movS_k {c j a i : Nat} {x : Fld × Fld × Int32} (h : i ≠ j) : (movS c j x).2.1 a i = x.2.1 a i := by
  unfold movS; dsimp only
  rw [up2_k _ _ _ _ _ _ h, up2_k _ _ _ _ _ _ h]
theorem movS_r {c j a : Nat} {x : Fld × Fld × Int32} (h2 : a ≠ 2) (h3 : a ≠ 3) : (movS c j x).2.1 a = x.2.1 a := by
  unfold movS; dsimp only
  rw [up2_r h3, up2_r h2]
/-- barges under way: at the sea's edge or at one of the places but the last -/
def okB (b : Fld) (bc : Nat) : Prop := ∀ i, i < bc → ∃ p, p ≤ 39 ∧ b 2 i + 1 = nI p
/-- all the barges' night -/
theorem upM_mov {q b b' : Fld} {c bc : Nat} {fi : Int32} (hc : c ≤ 6) (hw : okWt q c) (hpl : ∀ i, i < c → ∃ P, P < 40 ∧ q 0 i = nI P) (hB : okB b bc) (hr : ∀ a, 1 ≤ a → a ≤ 3 → b' a = b a) : ∀ k, k ≤ bc →
    (upM c k (q, b', fi)).1 = (movE q b c k fi).1 ∧ (upM c k (q, b', fi)).2.2 = (movE q b c k fi).2.2 ∧ (∀ a, 1 ≤ a → a ≤ 3 → (upM c k (q, b', fi)).2.1 a = (movE q b c k fi).2.1 a) ∧
    okWt (movE q b c k fi).1 c ∧ (∀ a, a ≠ 1 → a ≠ 2 → a ≠ 4 → (movE q b c k fi).1 a = q a) ∧ (∀ a i, k ≤ i → (movE q b c k fi).2.1 a i = b a i) ∧ (∀ i, i < k → ∃ p P, b 2 i + 1 = nI p ∧ p ≤ P ∧ P ≤ 39 ∧ (movE q b c k fi).2.1 2 i = nI P) ∧ (∀ a, a ≠ 2 → a ≠ 3 → (movE q b c k fi).2.1 a = b a) ∧ (∀ i, i < k → True) := by
  intro k
  induction k with
  | zero => intro _; exact ⟨rfl, rfl, hr, hw, fun _ _ _ _ => rfl, fun _ _ _ => rfl, fun i h => absurd h (Nat.not_lt_zero i), fun _ _ _ => rfl, fun _ _ => trivial⟩
  | succ k ih =>
    intro hk
    obtain ⟨e1, e2, e3, i1, i2, i3, i4, i5, _⟩ := ih (by omega)
    obtain ⟨p, hp, hx⟩ := hB k (by omega)
    have hx' : (movE q b c k fi).2.1 2 k + 1 = nI p := by rw [i3 2 k (Nat.le_refl k)]; exact hx
    have hpl' : ∀ i, i < c → ∃ P, P < 40 ∧ (movE q b c k fi).1 0 i = nI P := fun i hi => by rw [i2 0 (by decide) (by decide) (by decide)]; exact hpl i hi
    obtain ⟨g1, g2, g3, P, hpP, hP, g4⟩ := guE_mov (fi := (movE q b c k fi).2.2) i1 hpl' hc hp hx' e3
    have eU : upM c (k + 1) (q, b', fi) = guE c k 5 ((movE q b c k fi).1, (upM c k (q, b', fi)).2.1, (movE q b c k fi).2.2) := by
      rw [upM_s, ← e1, ← e2]
    have eM : movE q b c (k + 1) fi = movS c k ((movE q b c k fi).1, (movE q b c k fi).2.1, (movE q b c k fi).2.2) := movE_s q b c k fi
    rw [eU, eM]
    refine ⟨g1, g2, g3, ?_, ?_, ?_, ?_, ?_, fun _ _ => trivial⟩
    · exact brkE_w i1 c
    · intro a h1 h2 h4; exact (brkE_r h1 h2 h4 c).trans (i2 a h1 h2 h4)
    · intro a i hi
      exact (movS_k (by omega)).trans (i3 a i (by omega))
    · intro i hi
      rcases Nat.lt_or_eq_of_le (Nat.lt_succ_iff.mp hi) with h | h
      · obtain ⟨p1, P1, h1, h2, h3, h4⟩ := i4 i h
        exact ⟨p1, P1, h1, h2, h3, (movS_k (by omega)).trans h4⟩
      · subst h; exact ⟨p, P, hx, hpP, hP, g4⟩
    · intro a h2 h3
      exact (movS_r h2 h3).trans (i5 a h2 h3)
