theorem f_sub : ∀ k m : Fin 7, nI (k.val + 1) - nI (m.val + 1) = nI k.val - nI m.val := by decide +kernel
theorem f_sub2 : ∀ k m : Fin 7, (nI k.val - nI m.val) + 1 = nI (k.val + 1) - nI m.val := by decide +kernel
theorem lvE_k (b : Fld) (j : Nat) : ∀ (k i : Nat), k ≤ i → (lvE b k).1 j i = b j i
  | 0, _, _ => rfl
  | k + 1, i, h => by
    have ih := lvE_k b j k i (by omega)
    have hle := lvE_le b k
    rw [lvE_s]; unfold lvS
    split
    · exact (cpF_k _ _ _ _ _ _ (by omega)).trans ih
    · exact ih
/-- leaving: the same barges stay -/
theorem lvM_E {b b' : Fld} {ar : Int32} {bc : Nat} (hbc : bc ≤ 5) (hr : ∀ j, 1 ≤ j → j ≤ 3 → b' j = b j) (hp : ∀ i, i < bc → b 2 i < 39 ∨ b 2 i = 39) : ∀ k, k ≤ bc → (lvM b' k ar).2.1 = (lvE b k).2 ∧ (∀ j, 1 ≤ j → j ≤ 3 → (lvM b' k ar).1 j = (lvE b k).1 j) ∧ (lvM b' k ar).2.2 = ar + (nI k - nI (lvE b k).2) := by
  intro k
  induction k with
  | zero => intro _; exact ⟨rfl, hr, by show ar = ar + (nI 0 - nI 0); rw [show nI 0 - nI 0 = 0 by decide, Int32.add_zero]⟩
  | succ k ih =>
    intro hk
    obtain ⟨e1, e2, e3⟩ := ih (by omega)
    have hle := lvE_le b k
    have loc : (lvM b' k ar).1 2 k = b 2 k := by rw [e2 2 (by omega) (by omega)]; exact lvE_k b 2 k k (Nat.le_refl k)
    have loc2 : (lvE b k).1 2 k = b 2 k := lvE_k b 2 k k (Nat.le_refl k)
    rw [lvM_s, lvE_s]
    unfold lvMS lvS
    rw [loc, loc2, e1, e3]
    rcases hp k (by omega) with h | h
    · rw [if_neg (fun h9 => absurd h (by rw [h9]; decide)), if_pos h]
      refine ⟨rfl, ?_, ?_⟩
      · intro j h1 h3
        rcases (show j = 1 ∨ j = 2 ∨ j = 3 by omega) with rfl | rfl | rfl
        · show upd ((lvM b' k ar).1 1) (lvE b k).2 ((lvM b' k ar).1 1 k) = upd ((lvE b k).1 1) (lvE b k).2 ((lvE b k).1 1 k)
          rw [e2 1 (by omega) (by omega)]
        · show upd ((lvM b' k ar).1 2) (lvE b k).2 ((lvM b' k ar).1 2 k) = upd ((lvE b k).1 2) (lvE b k).2 ((lvE b k).1 2 k)
          rw [e2 2 (by omega) (by omega)]
        · show upd ((lvM b' k ar).1 3) (lvE b k).2 ((lvM b' k ar).1 3 k) = upd ((lvE b k).1 3) (lvE b k).2 ((lvE b k).1 3 k)
          rw [e2 3 (by omega) (by omega)]
      · show ar + (nI k - nI (lvE b k).2) = ar + (nI (k + 1) - nI ((lvE b k).2 + 1))
        rw [f_sub ⟨k, by omega⟩ ⟨(lvE b k).2, by omega⟩]
    · rw [if_pos h, if_neg (by rw [h]; decide)]
      refine ⟨rfl, e2, ?_⟩
      show ar + (nI k - nI (lvE b k).2) + 1 = ar + (nI (k + 1) - nI (lvE b k).2)
      rw [Int32.add_assoc, f_sub2 ⟨k, by omega⟩ ⟨(lvE b k).2, by omega⟩]
/-! moving -/
theorem brkE_no (q : Fld) (bp bw fi br : Int32) : ∀ k, hitB q bp bw k = false → brkE q k bp bw fi br = (q, fi, br)
  | 0, _ => rfl
  | k + 1, h => by
    rw [hitB_s] at h
    obtain ⟨h1, h2⟩ := Bool.or_eq_false_iff.mp h
    rw [brkE_s, brkE_no q bp bw fi br k h1]
    unfold brkS
    dsimp only
    by_cases h3 : q 0 k = bp
    · rw [decide_eq_true h3, Bool.true_and] at h2
      rw [if_pos h3, if_neg (by rw [h2]; decide)]
    · rw [if_neg h3]
theorem up2_4 (b : Fld) (j : Nat) (u v u' v' : Int32) : up2 (up2 (up2 (up2 b 2 j u) 3 j v) 2 j u') 3 j v' = up2 (up2 b 2 j u') 3 j v' := by
  funext a i
  by_cases hi : i = j
  · subst hi
    by_cases h3 : a = 3
    · subst h3; rw [up2_s, up2_s]
    · rw [up2_j _ _ _ _ _ _ h3, up2_j _ _ _ _ _ _ h3]
      by_cases h2 : a = 2
      · subst h2; rw [up2_s, up2_s]
      · rw [up2_j _ _ _ _ _ _ h2, up2_j _ _ _ _ _ _ h3, up2_j _ _ _ _ _ _ h2, up2_j _ _ _ _ _ _ h2]
  · rw [up2_k _ _ _ _ _ _ hi, up2_k _ _ _ _ _ _ hi, up2_k _ _ _ _ _ _ hi, up2_k _ _ _ _ _ _ hi, up2_k _ _ _ _ _ _ hi, up2_k _ _ _ _ _ _ hi]
/-- a barge at the place before P goes to P and breaks what is there -/
def atM (q : Fld) (b : Fld) (c j : Nat) (fi : Int32) (P : Nat) : Gst :=
  ((brkE q c (nI P) (b 1 j) fi (b 3 j)).1, up2 (up2 b 2 j (nI P)) 3 j (brkE q c (nI P) (b 1 j) fi (b 3 j)).2.2, (brkE q c (nI P) (b 1 j) fi (b 3 j)).2.1)
theorem nI_lt40 {p : Nat} (hp : p ≤ 39) {x : Int32} (hx : x + 1 = nI p) : x < 39 := by
  have h : ∀ p : Fin 40, nI p.val - 1 < 39 := by decide +kernel
  have e : x = nI p - 1 := by rw [← hx, Int32.add_sub_cancel]
  rw [e]; exact h ⟨p, by omega⟩
theorem guS_at {q b : Fld} {c j p : Nat} {fi : Int32} (hw : ∀ i, i < c → ∃ w, w ≤ 100 ∧ q 2 i = nI w) (hx : b 2 j + 1 = nI p) : guS c j (q, b, fi) = atM q b c j fi p ∧ (guB c j (q, b, fi)).2.2.2 = (if hitB q (nI p) (b 1 j) c = true then 1 else 0) := by
  have e : guB c j (q, b, fi) = bkE q c (nI p) (b 1 j) fi (b 3 j) := by
    show bkE q c (b 2 j + 1) (b 1 j) fi (b 3 j) = _; rw [hx]
  obtain ⟨e1, e2, e3, e4⟩ := bk_brk hw (nI p) (b 1 j) fi (b 3 j) c (Nat.le_refl c)
  refine ⟨?_, by rw [e]; exact e4⟩
  unfold guS atM
  rw [e, e1, e2, e3]
  show (_, up2 (up2 b 2 j (b 2 j + 1)) 3 j _, _) = _
  rw [hx]
theorem atM_no {q b : Fld} {c j p : Nat} {fi : Int32} (h : hitB q (nI p) (b 1 j) c = false) : atM q b c j fi p = (q, up2 (up2 b 2 j (nI p)) 3 j (b 3 j), fi) := by
  unfold atM; rw [brkE_no _ _ _ _ _ _ h]
/-- the model's steps: m of them at most, none beyond F, where the first weir in the way is, or the last place -/
theorem guE_at {q : Fld} {c j F : Nat} {fi wd : Int32} (hF : F ≤ 39) (hw : ∀ i, i < c → ∃ w, w ≤ 100 ∧ q 2 i = nI w) (hH : hitB q (nI F) wd c = true ∨ F = 39) : ∀ (m : Nat) (b : Fld) (p : Nat), b 1 j = wd → b 2 j + 1 = nI p → p ≤ F → (∀ P, p ≤ P → P < F → hitB q (nI P) wd c = false) → guE c j (m + 1) (q, b, fi) = atM q b c j fi (min (p + m) F) := by
  intro m
  induction m with
  | zero =>
    intro b p h1 hx hpF hN
    have hlt := nI_lt40 (by omega) hx
    obtain ⟨g1, g2⟩ := guS_at (fi := fi) hw hx
    show guE c j (0 + 1) (q, b, fi) = atM q b c j fi (min p F)
    rw [Nat.min_eq_left hpF]
    by_cases h : (guB c j (q, b, fi)).2.2.2 = 0
    · rw [guE_on hlt h, g1]; rfl
    · rw [guE_hit hlt h, g1]
  | succ m ih =>
    intro b p h1 hx hpF hN
    have hlt := nI_lt40 (by omega) hx
    obtain ⟨g1, g2⟩ := guS_at (fi := fi) hw hx
    rw [h1] at g2
    by_cases hh : hitB q (nI p) wd c = true
    · have hpe : p = F := by
        rcases Nat.lt_or_eq_of_le hpF with h | h
        · exact absurd hh (by rw [hN p (Nat.le_refl p) h]; decide)
        · exact h
      rw [guE_hit hlt (by rw [g2, if_pos hh]; decide), g1, Nat.min_eq_right (by omega), hpe]
    · have hh2 := eq_false_of_ne_true hh
      have hno := atM_no (b := b) (fi := fi) (j := j) (c := c) (q := q) (p := p) (by rw [h1]; exact hh2)
      rw [guE_on hlt (by rw [g2, if_neg hh]), g1, hno]
      rcases Nat.lt_or_eq_of_le hpF with h | h
      · have hx2 : (up2 (up2 b 2 j (nI p)) 3 j (b 3 j)) 2 j + 1 = nI (p + 1) := by
          rw [up2_j _ _ _ _ _ _ (show (2 : Nat) ≠ 3 by decide), up2_s]; exact nI_1 p
        have h12 : (up2 (up2 b 2 j (nI p)) 3 j (b 3 j)) 1 j = wd := by
          rw [up2_j _ _ _ _ _ _ (show (1 : Nat) ≠ 3 by decide), up2_j _ _ _ _ _ _ (show (1 : Nat) ≠ 2 by decide)]; exact h1
        rw [ih _ (p + 1) h12 hx2 (by omega) (fun P h2 h3 => hN P (by omega) h3), show p + 1 + m = p + (m + 1) by omega]
        unfold atM
        rw [up2_4, h12, h1, show (up2 (up2 b 2 j (nI p)) 3 j (b 3 j)) 3 j = b 3 j from up2_s _ _ _ _]
      · have hf : F = 39 := by
          rcases hH with h9 | h9
          · exact absurd h9 (by rw [← h]; exact hh)
          · exact h9
        rw [guE_far (by rw [up2_j _ _ _ _ _ _ (show (2 : Nat) ≠ 3 by decide), up2_s, h, hf]; decide), Nat.min_eq_right (by omega), ← h, hno]
