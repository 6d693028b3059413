/-! mean: no quotient of these is other than a number -/
theorem heldN_n (q : Fld) : ∀ c, ∃ h, h ≤ c ∧ heldN q c = nI h
  | 0 => ⟨0, by omega, rfl⟩
  | c + 1 => by
    obtain ⟨h, h1, h2⟩ := heldN_n q c
    rw [heldN_s]
    split
    · exact ⟨h + 1, by omega, by rw [h2]; exact nI_1 h⟩
    · exact ⟨h, by omega, h2⟩
theorem wattleN_n {q : Fld} {c : Nat} (hw : okWt q c) : ∀ k, k ≤ c → ∃ w, w ≤ 100 * k ∧ wattleN q k = nI w
  | 0, _ => ⟨0, by omega, rfl⟩
  | k + 1, hk => by
    obtain ⟨w, h1, h2⟩ := wattleN_n hw k (by omega)
    obtain ⟨x, x1, x2⟩ := hw k (by omega)
    rw [wattleN_s]
    split
    · exact ⟨w + x, by omega, by rw [h2, x2]; exact nI_add w x⟩
    · exact ⟨w, by omega, h2⟩
set_option maxRecDepth 100000 in
theorem f_mean : ∀ h : Fin 6, ∀ w : Fin 601, vf_n64 (FP.ddiv (FP.i2d (nI w.val)) (FP.i2d (nI (h.val + 1)))) := by unfold vf_n64; decide +kernel
theorem mean_ok {q : Fld} {c : Nat} (hc : c ≤ 6) (hw : okWt q c) : ¬ heldN q c = 0 → vf_n64 (FP.ddiv (FP.i2d (wattleN q c)) (FP.i2d (heldN q c))) := by
  intro hne
  obtain ⟨h, h1, h2⟩ := heldN_n q c
  obtain ⟨w, w1, w2⟩ := wattleN_n hw c (Nat.le_refl c)
  rw [h2] at hne ⊢
  rw [w2]
  cases h with
  | zero => exact absurd rfl hne
  | succ h => exact f_mean ⟨h, by omega⟩ ⟨w, by omega⟩
