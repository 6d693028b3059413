theorem dm17_E (t : Nat → Int32) (q : Fld) (c bc n : Nat) (ar fi re : Int32) : dm17 t q c bc n ar fi re = dig17 t q c bc n ar fi re := by
  unfold dm17 dig17
  rw [cntF_0, cntF_1, cntF_2, cntF_3, cntF_4, cntF_5, cntF_6, cntF_7, cntF_8, cntF_9]
theorem dmW8_E {q : Fld} {k : Nat} (d : Int64) (h6 : q 6 k = 0 ∨ q 6 k = 1) : dmW8 q k d = digW8 q k d := by
  unfold dmW8 digW8
  rw [wtF_fact (by decide) h6, wtF_fact (by decide) h6, wtF_fact (by decide) h6, wtF_fact (by decide) h6, wtF_fact (by decide) h6, wtF_fact (by decide) h6, wtF_fact (by decide) h6, wtF_fact (by decide) h6]
theorem dmWs_E {q : Fld} {c : Nat} (d : Int64) (h6 : okp q c) : ∀ k, k ≤ c → dmWs q d k = digWs q d k := by
  intro k
  induction k with
  | zero => intro _; rfl
  | succ k ih =>
    intro hk
    have e1 : dmWs q d (k + 1) = dmW8 q k (dmWs q d k) := rfl
    have e2 : digWs q d (k + 1) = digW8 q k (digWs q d k) := rfl
    rw [e1, e2, ih (by omega), dmW8_E _ (h6 k (by omega))]
theorem dmBs_E {q b b' : Fld} {c bc : Nat} {pp : Nat → Nat} (d : Int64) (hc : c ≤ 6) (hpl : okPl q c) (hr : ∀ a, 1 ≤ a → a ≤ 3 → b' a = b a) (hpp : ∀ j, j < bc → b' 2 j + 1 = nI (pp j) ∧ pp j ≤ 40) : ∀ k, k ≤ bc → dmBs q b' c pp d k = digBs q b c d k := by
  intro k
  induction k with
  | zero => intro _; rfl
  | succ k ih =>
    intro hk
    have e1 : dmBs q b' c pp d (k + 1) = dmB4 q b' c pp k (dmBs q b' c pp d k) := rfl
    have e2 : digBs q b c d (k + 1) = digB4 q b c k (digBs q b c d k) := rfl
    rw [e1, e2, ih (by omega)]
    obtain ⟨p1, p2⟩ := hpp k (by omega)
    have ht := told_M (bw := b' 1 k) hc p2 p1 hpl
    unfold dmB4 digB4
    rw [ht, hr 1 (by omega) (by omega), hr 2 (by omega) (by omega), hr 3 (by omega) (by omega)]
theorem digM_E {t : Nat → Int32} {q b b' : Fld} {c bc n : Nat} {ar fi re : Int32} {pp : Nat → Nat} (hc : c ≤ 6) (hpl : okPl q c) (h6 : okp q c) (hr : ∀ a, 1 ≤ a → a ≤ 3 → b' a = b a) (hpp : ∀ j, j < bc → b' 2 j + 1 = nI (pp j) ∧ pp j ≤ 40) : digM t q b' c bc n ar fi re pp = digE t q b c bc n ar fi re := by
  unfold digM digE
  rw [dm17_E, dmWs_E _ h6 c (Nat.le_refl c), dmBs_E _ hc hpl hr hpp bc (Nat.le_refl bc)]
theorem pp_of {b : Fld} {bc : Nat} (h : okB b bc) : ∀ j, j < bc → b 2 j + 1 = nI ((b 2 j + 1).toNatClampNeg) ∧ (b 2 j + 1).toNatClampNeg ≤ 40 := by
  intro j hj
  obtain ⟨p, hp, e⟩ := h j hj
  rw [e, nI_clamp (by omega)]
  exact ⟨rfl, by omega⟩
/-! how many nights a barge needs, a weir lasts: places and wattle bound them -/
theorem firstF_sp (p : Nat → Bool) : ∀ m, (firstF p m = m ∧ ∀ i, i < m → p i = true) ∨ (firstF p m < m ∧ p (firstF p m) = false ∧ ∀ i, i < firstF p m → p i = true)
  | 0 => Or.inl ⟨rfl, fun i h => absurd h (Nat.not_lt_zero i)⟩
  | m + 1 => by
    have e : firstF p (m + 1) = (if firstF p m < m then firstF p m else if p m = true then m + 1 else m) := rfl
    rcases firstF_sp p m with ⟨h1, h2⟩ | ⟨h1, h2, h3⟩
    · by_cases h : p m = true
      · rw [e, h1, if_neg (Nat.lt_irrefl m), if_pos h]
        exact Or.inl ⟨rfl, fun i hi => by
          rcases Nat.lt_or_eq_of_le (Nat.lt_succ_iff.mp hi) with h9 | h9
          · exact h2 i h9
          · rw [h9]; exact h⟩
      · rw [e, h1, if_neg (Nat.lt_irrefl m), if_neg h]
        exact Or.inr ⟨Nat.lt_succ_self m, eq_false_of_ne_true h, h2⟩
    · rw [e, if_pos h1]
      exact Or.inr ⟨by omega, h2, h3⟩
