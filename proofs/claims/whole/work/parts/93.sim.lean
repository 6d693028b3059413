/-! the law's loop: what class and model share, turn by turn -/
theorem nI_nn {x : Int32} (h : ¬ x < 0) : ∃ n, n < 2147483648 ∧ x = nI n := by
  have h0 : 0 ≤ x.toInt := by
    have := Int32.not_lt.mp h
    exact Int32.le_iff_toInt_le.mp this
  have h1 := Int32.toInt_lt x
  refine ⟨x.toInt.toNat, by omega, ?_⟩
  have h2 : ((x.toInt.toNat : Nat) : Int) = x.toInt := Int.toNat_of_nonneg h0
  show x = Int32.ofNat x.toInt.toNat
  rw [← Int32.ofInt_eq_ofNat, h2, Int32.ofInt_toInt]
theorem idx_cases (x : Int32) {c : Nat} (hc : c < 2147483648) : (x < 0 ∨ nI c ≤ x) ∨ ∃ k, k < c ∧ x = nI k := by
  by_cases h : x < 0
  · exact Or.inl (Or.inl h)
  · obtain ⟨n, hn, rfl⟩ := nI_nn h
    by_cases h2 : n < c
    · exact Or.inr ⟨n, h2, rfl⟩
    · exact Or.inl (Or.inr (nI_le (by omega) hn))
theorem inB_n {x : Int32} {lo hi : Nat} (h : inB (nI lo) x (nI hi) = true) (hh : hi < 2147483648) (hl : lo < 2147483648) : ∃ k, lo ≤ k ∧ k ≤ hi ∧ x = nI k := by
  unfold inB at h
  obtain ⟨h1, h2⟩ := Bool.and_eq_true_iff.mp h
  have h1 := of_decide_eq_true h1
  have h2 := of_decide_eq_true h2
  have h0 : ¬ x < 0 := fun h9 => absurd (Int32.lt_of_le_of_lt h1 h9) (nI_nlt (b := 0) (Nat.zero_le lo) hl)
  obtain ⟨n, hn, rfl⟩ := nI_nn h0
  exact ⟨n, (nI_le_iff hl hn).mp h1, (nI_le_iff hn hh).mp h2, rfl⟩
theorem and3 {x y z : Bool} : ((x && y && z) = false) ∨ (x = true ∧ y = true ∧ z = true) := by cases x <;> cases y <;> cases z <;> simp
def okTk (b : Fld) (bc A : Nat) : Prop := (∀ i, i < bc → ∃ k, k < A + bc ∧ b 0 i = nI k) ∧ (∀ i i', i < bc → i' < bc → b 0 i = b 0 i' → i = i')
def Sim (j : Nat) (t : Nat → Int32) (o : Nat → Nat) (q b b' : Fld) (c bc n : Nat) (ar : Int32) : Prop :=
  okN o q b c bc ∧ okR q b c bc ∧ okTb t ∧ (∀ a, 1 ≤ a → a ≤ 3 → b' a = b a) ∧ (∀ a k, 5 ≤ a → a ≤ 7 → c ≤ k → q a k = 0) ∧ (∃ A, ar = nI A ∧ okTk b bc A ∧ A + bc ≤ j) ∧ n ≤ 60 * j
section SIM
variable {j : Nat} {t : Nat → Int32} {o : Nat → Nat} {q b b' : Fld} {c bc n : Nat} {ar : Int32}
theorem Sim.K (h : Sim j t o q b b' c bc n ar) : okN o q b c bc := h.1
theorem Sim.R (h : Sim j t o q b b' c bc n ar) : okR q b c bc := h.2.1
theorem Sim.T (h : Sim j t o q b b' c bc n ar) : okTb t := h.2.2.1
theorem Sim.r (h : Sim j t o q b b' c bc n ar) : ∀ a, 1 ≤ a → a ≤ 3 → b' a = b a := h.2.2.2.1
theorem Sim.z (h : Sim j t o q b b' c bc n ar) : ∀ a k, 5 ≤ a → a ≤ 7 → c ≤ k → q a k = 0 := h.2.2.2.2.1
theorem Sim.tk (h : Sim j t o q b b' c bc n ar) : ∃ A, ar = nI A ∧ okTk b bc A ∧ A + bc ≤ j := h.2.2.2.2.2.1
theorem Sim.n60 (h : Sim j t o q b b' c bc n ar) : n ≤ 60 * j := h.2.2.2.2.2.2
theorem Sim.up (h : Sim j t o q b b' c bc n ar) : Sim (j + 1) t o q b b' c bc n ar := by
  obtain ⟨A, h1, h2, h3⟩ := h.tk
  have := h.n60
  exact ⟨h.K, h.R, h.T, h.r, h.z, ⟨A, h1, h2, by omega⟩, by omega⟩
/-- the weirs change below c, in rows that keep the bounds; all else stays -/
theorem Sim.weirs (h : Sim j t o q b b' c bc n ar) {q1 : Fld} (h0 : q1 0 = q 0) (hst : okSt q1 c) (hwt : okWt q1 c) (hee : okEe q1 c) (hop : okp q1 c) (h7 : q1 7 = q 7) (hz : ∀ a k, 5 ≤ a → a ≤ 7 → c ≤ k → q1 a k = q a k) : Sim (j + 1) t o q1 b b' c bc n ar := by
  obtain ⟨A, h1, h2, h3⟩ := h.tk
  have := h.n60
  refine ⟨⟨h.K.c6, h.K.b5, by rw [h0]; exact h.K.or, fun i hi => by rw [h0]; exact h.K.pl i hi, hwt, hop, fun i hi => by rw [h7]; exact h.K.ow i hi, h.K.ba⟩, ⟨hst, hee, h.R.2.2⟩, h.T, h.r, fun a k a1 a2 hk => (hz a k a1 a2 hk).trans (h.z a k a1 a2 hk), ⟨A, h1, h2, by omega⟩, by omega⟩
end SIM
/-- one field of one weir below c is set -/
theorem up2_at {q : Fld} {j k c : Nat} {x : Int32} {P : Int32 → Prop} (hk : P x) (h : ∀ i, i < c → P (q j i)) : ∀ i, i < c → P (up2 q j k x j i) := by
  intro i hi
  by_cases hik : i = k
  · subst hik; rw [up2_s]; exact hk
  · rw [up2_k _ _ _ _ _ _ hik]; exact h i hi
/-- nights keep the bonds -/
theorem nights_Z {t : Nat → Int32} {o : Nat → Nat} {q b : Fld} {c bc n : Nat} {ar fi re : Int32} (ho : ∀ i, i < c → o i < c) (a x : Nat) (hx : c ≤ x) : ∀ k, (nightsE t o c k (q, b, bc, n, ar, fi, re)).1 a x = q a x := by
  have cat : ∀ (q : Fld) (z : Int32) (k : Nat), k ≤ c → (catchP o q k z).1 a x = q a x := by
    intro q z k
    induction k with
    | zero => intro _; rfl
    | succ k ih =>
      intro hk
      rw [catchP_s]; unfold catchS
      split
      · exact (up2_k _ _ _ _ _ _ (by have := ho k (by omega); omega)).trans (ih (by omega))
      · exact ih (by omega)
  have brk : ∀ (q : Fld) (bp bw fi br : Int32), (brkE q c bp bw fi br).1 a x = q a x := fun q bp bw fi br => brkE_k q bp bw fi br a c x hx
  have mov : ∀ (q b : Fld) (fi : Int32) (k : Nat), (movE q b c k fi).1 a x = q a x := by
    intro q b fi k
    induction k with
    | zero => rfl
    | succ k ih => rw [movE_s]; exact (brk _ _ _ _ _).trans ih
  have rent : ∀ (q : Fld) (re : Int32) (k : Nat), k ≤ c → (rentE q k re).1 a x = q a x := by
    intro q re k
    induction k with
    | zero => intro _; rfl
    | succ k ih =>
      intro hk
      rw [rentE_s]; unfold rentS
      split
      · exact (payW_k _ _ _ _ (by omega)).trans (ih (by omega))
      · exact ih (by omega)
  have night : ∀ (q b : Fld) (bc n : Nat) (ar fi re : Int32), (nightE t o c (q, b, bc, n, ar, fi, re)).1 a x = q a x := by
    intro q b bc n ar fi re
    have h1 : (rotE (movE (catchE o q c (runI t n)) b c bc fi).1 c n) a x = q a x := (rotE_k _ n a c x hx).trans ((mov _ _ _ _).trans (cat q (runI t n) c (Nat.le_refl c)))
    unfold nightE
    dsimp only
    by_cases h13 : n % 14 = 13
    · rw [if_pos h13]; exact (rent _ _ c (Nat.le_refl c)).trans h1
    · rw [if_neg h13]; exact h1
  intro k
  induction k with
  | zero => rfl
  | succ k ih =>
    rw [nightsE_s]
    exact (night _ _ _ _ _ _ _).trans ih
/-- the tickets after some nights -/
theorem nights_tk {t : Nat → Int32} {o : Nat → Nat} {q b : Fld} {c bc n A : Nat} {ar fi re : Int32} (K : okN o q b c bc) (h : okTk b bc A) : ∀ k, okTk (nightsE t o c k (q, b, bc, n, ar, fi, re)).2.1 (nightsE t o c k (q, b, bc, n, ar, fi, re)).2.2.1 (A + (bc - (nightsE t o c k (q, b, bc, n, ar, fi, re)).2.2.1)) := by
  intro k
  induction k with
  | zero => rw [show A + (bc - (nightsE t o c 0 (q, b, bc, n, ar, fi, re)).2.2.1) = A from by show A + (bc - bc) = A; omega]; exact h
  | succ k ih =>
    obtain ⟨q1, b1, _, bc1, ar1, fi1, re1, e1, _, K1, _, _, _, hle⟩ := nights_M (t := t) (n := n) (ar := ar) (fi := fi) (re := re) K (b' := b) (fun _ _ _ => rfl) k
    obtain ⟨q2, b2, _, bc2, ar2, fi2, re2, e3, _, K2, _, _, _, hle2⟩ := nights_M (t := t) (n := n) (ar := ar) (fi := fi) (re := re) K (b' := b) (fun _ _ _ => rfl) (k + 1)
    obtain ⟨g, g1, g2⟩ := night_B (t := t) (n := n + k) (ar := ar1) (fi := fi1) (re := re1) K1
    rw [e1] at ih
    have e4 : nightE t o c (q1, b1, bc1, n + k, ar1, fi1, re1) = (q2, b2, bc2, n + (k + 1), ar2, fi2, re2) := by rw [← e1, ← nightsE_s, e3]
    rw [e4] at g1 g2
    rw [e3]
    obtain ⟨i1, i2⟩ := ih
    have i1 : ∀ i, i < bc1 → ∃ k, k < A + (bc - bc1) + bc1 ∧ b1 0 i = nI k := i1
    have i2 : ∀ i i', i < bc1 → i' < bc1 → b1 0 i = b1 0 i' → i = i' := i2
    have g1 : ∀ i, i < bc2 → g i < bc1 ∧ (∃ p P, b1 2 (g i) + 1 = nI p ∧ p ≤ P ∧ P < 39 ∧ b2 2 i = nI P) ∧ b2 0 i = b1 0 (g i) := g1
    have g2 : ∀ i i', i < i' → i' < bc2 → g i < g i' := g2
    refine ⟨fun i hi => ?_, fun i i' hi hi' he => ?_⟩
    · have hi : i < bc2 := hi
      obtain ⟨a1, _, a3⟩ := g1 i hi
      obtain ⟨k9, k1, k2⟩ := i1 (g i) a1
      refine ⟨k9, ?_, a3.trans k2⟩
      show k9 < A + (bc - bc2) + bc2
      omega
    · have hi : i < bc2 := hi
      have hi' : i' < bc2 := hi'
      obtain ⟨a1, _, a3⟩ := g1 i hi
      obtain ⟨b1', _, b3⟩ := g1 i' hi'
      have he : b2 0 i = b2 0 i' := he
      have h9 := i2 _ _ a1 b1' (by rw [← a3, ← b3]; exact he)
      rcases Nat.lt_trichotomy i i' with h8 | h8 | h8
      · have := g2 i i' h8 hi'; omega
      · exact h8
      · have := g2 i' i h8 hi; omega
