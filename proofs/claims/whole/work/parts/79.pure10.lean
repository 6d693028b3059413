/-! bounds: stakes, eels, widths, the table -/
def okSt (q : Fld) (c : Nat) : Prop := ∀ i, i < c → ∃ s, s ≤ 30 ∧ q 1 i = nI s
def okEe (q : Fld) (c : Nat) : Prop := ∀ i, i < c → ∃ e, e ≤ 200 ∧ q 5 i = nI e
def okWd (b : Fld) (bc : Nat) : Prop := ∀ i, i < bc → ∃ w, w ≤ 20 ∧ b 1 i = nI w
def okTb (t : Nat → Int32) : Prop := ∀ i, i < 7 → ∃ x, x ≤ 99 ∧ t i = nI x
theorem okO_lt {o : Nat → Nat} {pl : Nat → Int32} {c : Nat} (h : okO o pl c) : ∀ i, i < c → o i < c := by
  intro i hi
  have h1 : o i ∈ (List.range c).map o := List.mem_map.mpr ⟨i, List.mem_range.mpr hi, rfl⟩
  rw [h] at h1
  exact (orL_m h1).1
theorem minI_nI {a b : Nat} (ha : a < 2147483648) (hb : b < 2147483648) : minI (nI a) (nI b) = nI (min a b) := by
  unfold minI
  by_cases h : b < a
  · rw [if_pos (nI_lt h ha), Nat.min_eq_right (by omega)]
  · rw [if_neg (nI_nlt (by omega) hb), Nat.min_eq_left (by omega)]
theorem caught_ok {q : Fld} {k X : Nat} (hX : X ≤ 297) (h1 : ∃ s, s ≤ 30 ∧ q 1 k = nI s) (h2 : ∃ w, w ≤ 100 ∧ q 2 k = nI w) (h5 : ∃ e, e ≤ 200 ∧ q 5 k = nI e) : ∃ C e, C ≤ X ∧ e + C ≤ 200 ∧ q 5 k = nI e ∧ caughtI q k (nI X) = nI C := by
  obtain ⟨s, hs, e1⟩ := h1
  obtain ⟨w, hw, e2⟩ := h2
  obtain ⟨e, he, e5⟩ := h5
  have hsw : s * w ≤ 3000 := Nat.mul_le_mul hs hw
  have hp : X * s * w ≤ X * 3000 := by rw [Nat.mul_assoc]; exact Nat.mul_le_mul_left X hsw
  have hd : X * s * w / 3000 ≤ X := by
    have := Nat.div_le_div_right (c := 3000) hp
    rw [Nat.mul_div_cancel _ (by decide)] at this; exact this
  refine ⟨min (X * s * w / 3000) (200 - e), e, by omega, by omega, e5, ?_⟩
  unfold caughtI
  rw [e1, e2, e5, pk_mul, pk_mul, show (3000 : Int32) = nI 3000 from rfl, pk_div (by omega) (by decide) (by decide), show (200 : Int32) = nI 200 from rfl, pk_sub he]
  exact minI_nI (by omega) (by omega)
theorem catchP_ok {o : Nat → Nat} {q : Fld} {c X : Nat} (ho : ∀ i, i < c → o i < c) (hX : X ≤ 297) (h1 : okSt q c) (h2 : okWt q c) (h5 : okEe q c) : ∀ k, k ≤ c → okEe (catchP o q k (nI X)).1 c ∧ ∃ X2, X2 ≤ 297 ∧ (catchP o q k (nI X)).2 = nI X2
  | 0, _ => ⟨h5, X, hX, rfl⟩
  | k + 1, hk => by
    obtain ⟨i1, X2, hX2, i2⟩ := catchP_ok ho hX h1 h2 h5 k (by omega)
    have hok := ho k (by omega)
    rw [catchP_s]; unfold catchS
    split
    · obtain ⟨C, e, c1, c2, c3, c4⟩ := caught_ok (q := (catchP o q k (nI X)).1) hX2 (by rw [catchP_r (by decide)]; exact h1 _ hok) (by rw [catchP_r (by decide)]; exact h2 _ hok) (i1 _ hok)
      rw [i2, c4]
      refine ⟨fun i hi => ?_, X2 - C, by omega, pk_sub c1⟩
      show ∃ e, e ≤ 200 ∧ up2 (catchP o q k (nI X)).1 5 (o k) ((catchP o q k (nI X)).1 5 (o k) + caughtI (catchP o q k (nI X)).1 (o k) (nI X2)) 5 i = nI e
      by_cases hik : i = o k
      · rw [hik, up2_s, c3, c4]; exact ⟨e + C, c2, nI_add _ _⟩
      · rw [up2_k _ _ _ _ _ _ hik]; exact i1 i hi
    · exact ⟨i1, X2, hX2, i2⟩
theorem runI_ok {t : Nat → Int32} {n : Nat} (h : okTb t) : ∃ X, X ≤ 297 ∧ runI t n = nI X := by
  obtain ⟨x, hx, e⟩ := h (n % 7) (Nat.mod_lt n (by decide))
  unfold runI
  rw [e]
  split
  · exact ⟨3 * x, by omega, pk_mul 3 x⟩
  · split
    · exact ⟨2 * x, by omega, pk_mul 2 x⟩
    · exact ⟨x, by omega, rfl⟩
theorem f_wide : ∀ w : Fin 21, 30 - nI w.val = nI (30 - w.val) := by decide +kernel
theorem breakW_1 (q : Fld) (k : Nat) (w : Int32) : breakW q k w 1 k = 30 - w := by
  unfold breakW
  rw [up2_r (show (1 : Nat) ≠ 4 by decide), loseW_r (show (1 : Nat) ≠ 2 by decide), up2_s]
theorem brkE_st {q : Fld} {bp bw fi br : Int32} {c : Nat} (hw : ∃ w, w ≤ 20 ∧ bw = nI w) (h : okSt q c) : ∀ k, okSt (brkE q k bp bw fi br).1 c
  | 0 => h
  | k + 1 => by
    have ih := brkE_st (bp := bp) (fi := fi) (br := br) hw h k
    rw [brkE_s]; unfold brkS
    split
    · split
      · intro i hi
        by_cases hik : i = k
        · subst hik
          obtain ⟨w, hw1, hw2⟩ := hw
          exact ⟨30 - w, by omega, (breakW_1 _ _ _).trans (by rw [hw2]; exact f_wide ⟨w, by omega⟩)⟩
        · obtain ⟨s, h1, h2⟩ := ih i hi
          exact ⟨s, h1, (breakW_k _ _ _ _ _ hik).trans h2⟩
      · exact ih
    · exact ih
theorem movE_st {q b : Fld} {c bc : Nat} {fi : Int32} (h : okSt q c) (hW : okWd b bc) : ∀ k, k ≤ bc → okSt (movE q b c k fi).1 c ∧ (movE q b c k fi).2.1 1 = b 1
  | 0, _ => ⟨h, rfl⟩
  | k + 1, hk => by
    obtain ⟨i1, i2⟩ := movE_st (fi := fi) h hW k (by omega)
    rw [movE_s]
    exact ⟨brkE_st (by rw [i2]; exact hW k (by omega)) i1 c, (movS_r (by decide) (by decide)).trans i2⟩
theorem movE_r5 {q b : Fld} {c : Nat} {fi : Int32} : ∀ k, (movE q b c k fi).1 5 = q 5
  | 0 => rfl
  | k + 1 => by rw [movE_s]; exact (brkE_r (by decide) (by decide) (by decide) c).trans (movE_r5 k)
theorem rentE_e {q : Fld} {re : Int32} {c : Nat} (h : okEe q c) : ∀ k, okEe (rentE q k re).1 c
  | 0 => h
  | k + 1 => by
    have ih := rentE_e (re := re) h k
    rw [rentE_s]; unfold rentS
    split
    · intro i hi
      by_cases hik : i = k
      · subst hik
        show ∃ e, e ≤ 200 ∧ payW (rentE q i re).1 i 5 i = nI e
        unfold payW
        split
        · split
          · rw [up2_j _ _ _ _ _ _ (show (5 : Nat) ≠ 7 by decide)]; exact ih i hi
          · exact ⟨0, by omega, up2_s _ _ _ _⟩
        · rw [up2_j _ _ _ _ _ _ (show (5 : Nat) ≠ 7 by decide), up2_j _ _ _ _ _ _ (show (5 : Nat) ≠ 4 by decide)]; exact ih i hi
      · obtain ⟨e, h1, h2⟩ := ih i hi
        exact ⟨e, h1, (payW_k _ _ _ _ hik).trans h2⟩
    · exact ih
