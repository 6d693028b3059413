/-! the model's functions are the class's -/
theorem f_lose : ∀ w : Fin 101, ∀ m : Fin 21, maxI 0 (nI w.val - nI m.val) = loseI (nI w.val) (nI m.val) := by decide +kernel
theorem f_lose2 : ∀ w : Fin 101, ∀ m : Fin 21, loseI (nI w.val) (nI m.val) = nI (w.val - m.val) := by decide +kernel
theorem lose_M {x : Int32} {m : Nat} (h : ∃ w, w ≤ 100 ∧ x = nI w) (hm : m ≤ 20) : maxI 0 (x - nI m) = loseI x (nI m) := by
  obtain ⟨w, hw, rfl⟩ := h
  exact f_lose ⟨w, by omega⟩ ⟨m, by omega⟩
theorem lose_ok {x : Int32} {m : Nat} (h : ∃ w, w ≤ 100 ∧ x = nI w) (hm : m ≤ 20) : ∃ w, w ≤ 100 ∧ loseI x (nI m) = nI w := by
  obtain ⟨w, hw, rfl⟩ := h
  exact ⟨w - m, by omega, f_lose2 ⟨w, by omega⟩ ⟨m, by omega⟩⟩
theorem moonI_012 (n : Nat) : moonI n = 0 ∨ moonI n = 1 ∨ moonI n = 2 := by
  unfold moonI moonD
  split
  · exact Or.inl rfl
  · split
    · split
      · exact Or.inr (Or.inl rfl)
      · split
        · exact Or.inr (Or.inr rfl)
        · exact Or.inr (Or.inl rfl)
    · exact Or.inl rfl
theorem runM_I (t : Nat → Int32) (n : Nat) : runM t n = runI t n := by
  unfold runM runI
  rcases moonI_012 n with h | h | h
  · rw [h, if_pos rfl, show (3 : Int32) - 0 = 3 from by decide, Int32.mul_comm]
  · rw [h, if_neg (by decide), if_pos rfl, show (3 : Int32) - 1 = 2 from by decide, Int32.mul_comm]
  · rw [h, if_neg (by decide), if_neg (by decide), show (3 : Int32) - 2 = 1 from by decide, Int32.mul_one]
theorem rotI_n (n : Nat) : ∃ m, m ≤ 20 ∧ rotI n = nI m := by
  unfold rotI
  split
  · exact ⟨1, by omega, rfl⟩
  · exact ⟨3, by omega, rfl⟩
theorem breakM_W {q : Fld} {k : Nat} {wd : Int32} (h : ∃ w, w ≤ 100 ∧ q 2 k = nI w) : breakM q k wd = breakW q k wd := by
  have e : loseW (up2 q 1 k (30 - wd)) k 20 = up2 (up2 q 1 k (30 - wd)) 2 k (loseI (q 2 k) 20) := rfl
  unfold breakM breakW
  rw [e, show maxI 0 (q 2 k - 20) = loseI (q 2 k) 20 from lose_M (m := 20) h (by omega)]
def hitB (q : Fld) (bp bw : Int32) : Nat → Bool
  | 0 => false
  | k + 1 => hitB q bp bw k || (decide (q 0 k = bp) && wayB q k bw)
theorem hitB_s (q : Fld) (bp bw : Int32) (k : Nat) : hitB q bp bw (k + 1) = (hitB q bp bw k || (decide (q 0 k = bp) && wayB q k bw)) := rfl
theorem way_c {q q' : Fld} {i : Nat} (h : ∀ j, q' j i = q j i) (bw : Int32) : wayB q' i bw = wayB q i bw := by unfold wayB fishB; rw [h 7, h 6, h 1]
theorem held_c {q q' : Fld} {i : Nat} (h : q' 7 i = q 7 i) : heldB q' i = heldB q i := by unfold heldB; rw [h]
theorem brkE_k (q : Fld) (bp bw fi br : Int32) (j : Nat) : ∀ (k i : Nat), k ≤ i → (brkE q k bp bw fi br).1 j i = q j i
  | 0, _, _ => rfl
  | k + 1, i, h => by
    have ih := brkE_k q bp bw fi br j k i (by omega)
    rw [brkE_s]; unfold brkS
    split
    · split
      · exact (breakW_k _ _ _ _ _ (by omega)).trans ih
      · exact ih
    · exact ih
theorem bk_brk {q : Fld} {c : Nat} (hw : ∀ i, i < c → ∃ w, w ≤ 100 ∧ q 2 i = nI w) (bp bw fi br : Int32) : ∀ k, k ≤ c → (bkE q k bp bw fi br).1 = (brkE q k bp bw fi br).1 ∧ (bkE q k bp bw fi br).2.1 = (brkE q k bp bw fi br).2.1 ∧ (bkE q k bp bw fi br).2.2.1 = (brkE q k bp bw fi br).2.2 ∧ (bkE q k bp bw fi br).2.2.2 = (if hitB q bp bw k = true then 1 else 0)
  | 0, _ => ⟨rfl, rfl, rfl, rfl⟩
  | k + 1, hk => by
    obtain ⟨e1, e2, e3, e4⟩ := bk_brk hw bp bw fi br k (by omega)
    have loc : ∀ j, (brkE q k bp bw fi br).1 j k = q j k := fun j => brkE_k q bp bw fi br j k k (Nat.le_refl k)
    rw [bkE_s, brkE_s, hitB_s]
    unfold bkS brkS
    rw [e1, loc 0, way_c loc]
    by_cases h : q 0 k = bp
    · by_cases h2 : wayB q k bw = true
      · rw [if_pos h, if_pos h2, if_pos h, if_pos h2, decide_eq_true h, h2]
        refine ⟨?_, ?_, ?_, ?_⟩
        · exact breakM_W (by rw [loc 2]; exact hw k (by omega))
        · exact congrArg (· + fineI (brkE q k bp bw fi br).1 k) e2
        · exact congrArg (· + 1) e3
        · rw [Bool.and_self, Bool.or_true]; rfl
      · rw [if_pos h, if_neg h2, if_pos h, if_neg h2, eq_false_of_ne_true h2, Bool.and_false, Bool.or_false]
        exact ⟨e1, e2, e3, e4⟩
    · rw [if_neg h, if_neg h, decide_eq_false h, Bool.false_and, Bool.or_false]
      exact ⟨e1, e2, e3, e4⟩
theorem rotE_k (q : Fld) (n j : Nat) : ∀ (k i : Nat), k ≤ i → (rotE q k n) j i = q j i
  | 0, _, _ => rfl
  | k + 1, i, hi => by
    have ih := rotE_k q n j k i (by omega)
    rw [rotE_s]
    split
    · exact (loseW_k _ _ _ _ _ (by omega)).trans ih
    · exact ih
theorem rot_step {a : Fld} {k n : Nat} (h : ∃ w, w ≤ 100 ∧ a 2 k = nI w) : up2 a 2 k (maxI 0 (a 2 k - rotI n)) = loseW a k (rotI n) := by
  obtain ⟨m, hm, hr⟩ := rotI_n n
  have e := lose_M h hm
  rw [← hr] at e
  exact congrArg (up2 a 2 k) e
theorem rotM_E {q : Fld} {n c : Nat} (hw : ∀ i, i < c → ∃ w, w ≤ 100 ∧ q 2 i = nI w) : ∀ k, k ≤ c → rotM q k n = rotE q k n := by
  intro k
  induction k with
  | zero =>
    intro _
    have h1 : rotM q 0 n = q := rfl
    have h2 : rotE q 0 n = q := rfl
    rw [h1, h2]
  | succ k ih =>
    intro hk
    have ih := ih (by omega)
    have h2 : ∃ w, w ≤ 100 ∧ (rotE q k n) 2 k = nI w := by rw [rotE_k q n 2 k k (Nat.le_refl k)]; exact hw k (by omega)
    have hs := rot_step (n := n) h2
    rw [rotM_s, rotE_s, ih, hs]
theorem payM_W {q : Fld} {k : Nat} (h : heldB q k = true) (h7 : ∃ o, o ≤ 3 ∧ q 7 k = nI o) : payM q k = payW q k := by
  obtain ⟨o, ho, e⟩ := h7
  have ho3 : o < 3 := by
    unfold heldB at h; rw [e] at h
    have h9 := of_decide_eq_true h
    rcases (show o = 0 ∨ o = 1 ∨ o = 2 ∨ o = 3 by omega) with rfl | rfl | rfl | rfl
    · omega
    · omega
    · omega
    · exact absurd h9 (by decide)
  unfold payM payW
  rw [e]
  rcases (show o = 0 ∨ o = 1 ∨ o = 2 by omega) with rfl | rfl | rfl
  · rw [if_neg (show ¬ nI 0 + 1 = 3 by decide), if_pos (show nI 0 + 1 < 3 by decide)]
  · rw [if_neg (show ¬ nI 1 + 1 = 3 by decide), if_pos (show nI 1 + 1 < 3 by decide)]
  · rw [if_pos (show nI 2 + 1 = 3 by decide), if_neg (show ¬ nI 2 + 1 < 3 by decide)]
theorem rentM_E {q : Fld} {rn : Int32} : ∀ {c : Nat}, (∀ i, i < c → ∃ o, o ≤ 3 ∧ q 7 i = nI o) → rentM q c rn = rentE q c rn
  | 0, _ => rfl
  | c + 1, h7 => by
    have ih := rentM_E (q := q) (rn := rn) (c := c) (fun i hi => h7 i (by omega))
    have loc : ∀ (k i : Nat), k ≤ i → ∀ j, (rentE q k rn).1 j i = q j i := by
      intro k
      induction k with
      | zero => intro _ _ _; rfl
      | succ k ihk =>
        intro i hi j
        rw [rentE_s]; unfold rentS
        split
        · exact (payW_k _ _ _ _ (by omega)).trans (ihk i (by omega) j)
        · exact ihk i (by omega) j
    rw [rentM_s, rentE_s, ih]
    unfold rentMS rentS
    by_cases h : heldB (rentE q c rn).1 c = true
    · rw [if_pos h, if_pos h, payM_W h (by rw [loc c c (Nat.le_refl c) 7]; exact h7 c (by omega))]
    · rw [if_neg h, if_neg h]
