/-! each call that changes something keeps what is shared -/
section SIM2
variable {j : Nat} {t : Nat → Int32} {o : Nat → Nat} {q b b' : Fld} {c bc n : Nat} {ar : Int32}
theorem Sim.gate (h : Sim j t o q b b' c bc n ar) {k : Nat} (hk : k < c) : Sim (j + 1) t o (up2 q 6 k (gateZ q k)) b b' c bc n ar := by
  refine h.weirs (up2_r (by decide)) ?_ ?_ ?_ ?_ (up2_r (by decide)) (fun a i _ _ hi => up2_k _ _ _ _ _ _ (by omega))
  · intro i hi; rw [up2_r (by decide)]; exact h.R.1 i hi
  · intro i hi; rw [up2_r (by decide)]; exact h.K.wt i hi
  · intro i hi; rw [up2_r (by decide)]; exact h.R.2.1 i hi
  · refine up2_at (P := fun x => x = 0 ∨ x = 1) ?_ h.K.op
    unfold gateZ
    split
    · exact Or.inr rfl
    · exact Or.inl rfl
theorem Sim.mend (h : Sim j t o q b b' c bc n ar) {k : Nat} (hk : k < c) {x z : Int32} (hw : inB 1 x 100 = true) (h1 : ¬ 100 < q 2 k + x) : Sim (j + 1) t o (up2 (up2 q 4 k z) 2 k (q 2 k + x)) b b' c bc n ar := by
  refine h.weirs ((up2_r (by decide)).trans (up2_r (by decide))) ?_ ?_ ?_ ?_ ((up2_r (by decide)).trans (up2_r (by decide))) (fun a i _ _ hi => (up2_k _ _ _ _ _ _ (by omega)).trans (up2_k _ _ _ _ _ _ (by omega)))
  · intro i hi; rw [up2_r (by decide), up2_r (by decide)]; exact h.R.1 i hi
  · refine up2_at (P := fun x => ∃ w, w ≤ 100 ∧ x = nI w) ?_ (fun i hi => by rw [up2_r (by decide)]; exact h.K.wt i hi)
    obtain ⟨w, w1, w2⟩ := h.K.wt k hk
    obtain ⟨m, m1, m2, rfl⟩ := inB_n (lo := 1) (hi := 100) hw (by decide) (by decide)
    rw [w2, nI_add] at h1 ⊢
    refine ⟨w + m, ?_, rfl⟩
    exact Nat.le_of_not_lt (fun h9 => h1 (nI_lt (a := 100) h9 (by omega)))
  · intro i hi; rw [up2_r (by decide), up2_r (by decide)]; exact h.R.2.1 i hi
  · intro i hi; rw [up2_r (by decide), up2_r (by decide)]; exact h.K.op i hi
theorem Sim.drive (h : Sim j t o q b b' c bc n ar) {k : Nat} (hk : k < c) {x z : Int32} (hw : inB 1 x 30 = true) (h1 : ¬ 30 < q 1 k + x) : Sim (j + 1) t o (up2 (up2 q 4 k z) 1 k (q 1 k + x)) b b' c bc n ar := by
  refine h.weirs ((up2_r (by decide)).trans (up2_r (by decide))) ?_ ?_ ?_ ?_ ((up2_r (by decide)).trans (up2_r (by decide))) (fun a i _ _ hi => (up2_k _ _ _ _ _ _ (by omega)).trans (up2_k _ _ _ _ _ _ (by omega)))
  · refine up2_at (P := fun x => ∃ w, w ≤ 30 ∧ x = nI w) ?_ (fun i hi => by rw [up2_r (by decide)]; exact h.R.1 i hi)
    obtain ⟨w, w1, w2⟩ := h.R.1 k hk
    obtain ⟨m, m1, m2, rfl⟩ := inB_n (lo := 1) (hi := 30) hw (by decide) (by decide)
    rw [w2, nI_add] at h1 ⊢
    refine ⟨w + m, ?_, rfl⟩
    exact Nat.le_of_not_lt (fun h9 => h1 (nI_lt (a := 30) h9 (by omega)))
  · intro i hi; rw [up2_r (by decide), up2_r (by decide)]; exact h.K.wt i hi
  · intro i hi; rw [up2_r (by decide), up2_r (by decide)]; exact h.R.2.1 i hi
  · intro i hi; rw [up2_r (by decide), up2_r (by decide)]; exact h.K.op i hi
theorem Sim.sell (h : Sim j t o q b b' c bc n ar) {k : Nat} (hk : k < c) {z : Int32} : Sim (j + 1) t o (up2 (up2 q 5 k 0) 4 k z) b b' c bc n ar := by
  refine h.weirs ((up2_r (by decide)).trans (up2_r (by decide))) ?_ ?_ ?_ ?_ ((up2_r (by decide)).trans (up2_r (by decide))) (fun a i _ _ hi => (up2_k _ _ _ _ _ _ (by omega)).trans (up2_k _ _ _ _ _ _ (by omega)))
  · intro i hi; rw [up2_r (by decide), up2_r (by decide)]; exact h.R.1 i hi
  · intro i hi; rw [up2_r (by decide), up2_r (by decide)]; exact h.K.wt i hi
  · intro i hi
    rw [up2_r (by decide)]
    exact up2_at (P := fun x => ∃ w, w ≤ 200 ∧ x = nI w) ⟨0, by omega, rfl⟩ h.R.2.1 i hi
  · intro i hi; rw [up2_r (by decide), up2_r (by decide)]; exact h.K.op i hi
theorem Sim.setRun (h : Sim j t o q b b' c bc n ar) {k : Nat} {x : Int32} (hw : inB 0 x 99 = true) : Sim (j + 1) (upd t k x) o q b b' c bc n ar := by
  obtain ⟨A, h1, h2, h3⟩ := h.tk
  have := h.n60
  refine ⟨h.K, h.R, fun i hi => ?_, h.r, h.z, ⟨A, h1, h2, by omega⟩, by omega⟩
  by_cases hik : i = k
  · obtain ⟨m, m1, m2, e⟩ := inB_n (lo := 0) (hi := 99) hw (by decide) (by decide)
    exact ⟨m, m2, by unfold upd; rw [if_pos hik]; exact e⟩
  · obtain ⟨m, m1, m2⟩ := h.T i hi
    exact ⟨m, m1, by unfold upd; rw [if_neg hik]; exact m2⟩
theorem newW_0 (q : Fld) (k : Nat) (p s r : Int32) : newW q k p s r 0 = upd (q 0) k p := by
  unfold newW
  rw [up2_r (by decide), up2_r (by decide), up2_r (by decide), up2_r (by decide), up2_r (by decide), up2_r (by decide), up2_r (by decide)]
  rfl
theorem newW_at (q : Fld) (k : Nat) (p s r : Int32) : newW q k p s r 0 k = p ∧ newW q k p s r 1 k = s ∧ newW q k p s r 2 k = 100 ∧ newW q k p s r 5 k = 0 ∧ newW q k p s r 6 k = 0 ∧ newW q k p s r 7 k = 0 := by simp [newW, up2, upd]
theorem Sim.weir (h : Sim j t o q b b' c bc n ar) {x0 x1 x2 : Int32} (hc : c < 6) (h0 : inB 0 x0 39 = true) (h1 : inB 1 x1 30 = true) : Sim (j + 1) t (insE q x0 c c o) (newW q c x0 x1 x2) b b' (c + 1) bc n ar := by
  obtain ⟨A, a1, a2, a3⟩ := h.tk
  have := h.n60
  obtain ⟨p, p1, p2, rfl⟩ := inB_n (lo := 0) (hi := 39) h0 (by decide) (by decide)
  obtain ⟨s, s1, s2, rfl⟩ := inB_n (lo := 1) (hi := 30) h1 (by decide) (by decide)
  obtain ⟨n0, n1, n2, n5, n6, n7⟩ := newW_at q c (nI p) (nI s) x2
  have each : ∀ (a : Nat) (P : Int32 → Prop), P (newW q c (nI p) (nI s) x2 a c) → (∀ i, i < c → P (q a i)) → ∀ i, i < c + 1 → P (newW q c (nI p) (nI s) x2 a i) := by
    intro a P hP hQ i hi
    rcases Nat.lt_or_eq_of_le (Nat.lt_succ_iff.mp hi) with h9 | h9
    · rw [newW_k _ _ _ _ _ _ _ (by omega)]; exact hQ i h9
    · rw [h9]; exact hP
  refine ⟨⟨by omega, h.K.b5, ?_, ?_, ?_, ?_, ?_, h.K.ba⟩, ⟨?_, ?_, h.R.2.2⟩, h.T, h.r, ?_, ⟨A, a1, a2, by omega⟩, by omega⟩
  · rw [newW_0]; exact okO_ins (by omega) h.K.or
  · exact each 0 (fun x => ∃ P, P < 40 ∧ x = nI P) ⟨p, by omega, n0⟩ h.K.pl
  · exact each 2 (fun x => ∃ w, w ≤ 100 ∧ x = nI w) ⟨100, by omega, n2⟩ h.K.wt
  · exact each 6 (fun x => x = 0 ∨ x = 1) (Or.inl n6) h.K.op
  · exact each 7 (fun x => ∃ o, o ≤ 3 ∧ x = nI o) ⟨0, by omega, n7⟩ h.K.ow
  · exact each 1 (fun x => ∃ s, s ≤ 30 ∧ x = nI s) ⟨s, s2, n1⟩ h.R.1
  · exact each 5 (fun x => ∃ e, e ≤ 200 ∧ x = nI e) ⟨0, by omega, n5⟩ h.R.2.1
  · intro a k k1 k2 hk
    rw [newW_k _ _ _ _ _ _ _ (by omega)]; exact h.z a k k1 k2 (by omega)
theorem newB_at (b : Fld) (k : Nat) (tk w : Int32) : newB b k tk w 0 k = tk ∧ newB b k tk w 1 k = w ∧ newB b k tk w 2 k = -1 := by simp [newB, up2, upd]
theorem Sim.barge (h : Sim j t o q b b' c bc n ar) (hj : j ≤ 512) {x : Int32} (hbc : bc < 5) (hw : inB 1 x 20 = true) : Sim (j + 1) t o q (newB b bc (ar + nI bc) x) (up2 (up2 (up2 b' 1 bc x) 2 bc (-1)) 3 bc 0) c (bc + 1) n ar := by
  obtain ⟨A, a1, ⟨a2, a4⟩, a3⟩ := h.tk
  have := h.n60
  obtain ⟨m, m1, m2, rfl⟩ := inB_n (lo := 1) (hi := 20) hw (by decide) (by decide)
  obtain ⟨n0, n1, n2⟩ := newB_at b bc (ar + nI bc) (nI m)
  have e0 : ar + nI bc = nI (A + bc) := by rw [a1]; exact nI_add A bc
  refine ⟨⟨h.K.c6, by omega, h.K.or, h.K.pl, h.K.wt, h.K.op, h.K.ow, ?_⟩, ⟨h.R.1, h.R.2.1, ?_⟩, h.T, barge_M h.r, h.z, ⟨A, a1, ⟨?_, ?_⟩, by omega⟩, by omega⟩
  · intro i hi
    rcases Nat.lt_or_eq_of_le (Nat.lt_succ_iff.mp hi) with h9 | h9
    · rw [newB_k _ _ _ _ _ _ (by omega)]; exact h.K.ba i h9
    · rw [h9, n2]; exact ⟨0, by omega, by decide⟩
  · intro i hi
    rcases Nat.lt_or_eq_of_le (Nat.lt_succ_iff.mp hi) with h9 | h9
    · rw [newB_k _ _ _ _ _ _ (by omega)]; exact h.R.2.2 i h9
    · rw [h9, n1]; exact ⟨m, m2, rfl⟩
  · intro i hi
    rcases Nat.lt_or_eq_of_le (Nat.lt_succ_iff.mp hi) with h9 | h9
    · rw [newB_k _ _ _ _ _ _ (by omega)]
      obtain ⟨k, k1, k2⟩ := a2 i h9
      exact ⟨k, by omega, k2⟩
    · rw [h9, n0, e0]; exact ⟨A + bc, by omega, rfl⟩
  · have fresh : ∀ i, i < bc → b 0 i ≠ nI (A + bc) := fun i hi h9 => by
      obtain ⟨k, k1, k2⟩ := a2 i hi
      rw [k2] at h9
      have := (nI_eq (by omega) (by omega)).mp h9
      omega
    intro i i' hi hi' he
    rcases Nat.lt_or_eq_of_le (Nat.lt_succ_iff.mp hi) with h9 | h9
    · rcases Nat.lt_or_eq_of_le (Nat.lt_succ_iff.mp hi') with h8 | h8
      · rw [newB_k _ _ _ _ _ _ (by omega), newB_k _ _ _ _ _ _ (by omega)] at he
        exact a4 i i' h9 h8 he
      · rw [h8, n0, e0, newB_k _ _ _ _ _ _ (by omega)] at he
        exact absurd he (fresh i h9)
    · rcases Nat.lt_or_eq_of_le (Nat.lt_succ_iff.mp hi') with h8 | h8
      · rw [h9, n0, e0, newB_k _ _ _ _ _ _ (by omega)] at he
        exact absurd he.symm (fresh i' h8)
      · omega
theorem Sim.pass (h : Sim j t o q b b' c bc n ar) {fi re : Int32} {mm : Nat} (hm : mm ≤ 60) (hj : j ≤ 512) : Sim (j + 1) t o (nightsE t o c mm (q, b, bc, n, ar, fi, re)).1 (nightsE t o c mm (q, b, bc, n, ar, fi, re)).2.1 (nightsM t c mm (q, b', bc, n, ar, fi, re)).2.1 c (nightsE t o c mm (q, b, bc, n, ar, fi, re)).2.2.1 (nightsE t o c mm (q, b, bc, n, ar, fi, re)).2.2.2.1 (nightsE t o c mm (q, b, bc, n, ar, fi, re)).2.2.2.2.1 ∧
    (nightsM t c mm (q, b', bc, n, ar, fi, re)).1 = (nightsE t o c mm (q, b, bc, n, ar, fi, re)).1 ∧ (nightsM t c mm (q, b', bc, n, ar, fi, re)).2.2 = (nightsE t o c mm (q, b, bc, n, ar, fi, re)).2.2 := by
  obtain ⟨A, a1, a2, a3⟩ := h.tk
  have h60 := h.n60
  have hb5 := h.K.b5
  have hR := nights_R (t := t) (n := n) (ar := ar) (fi := fi) (re := re) h.K h.T h.R mm
  have hZ := fun a x hx => nights_Z (t := t) (q := q) (b := b) (bc := bc) (n := n) (ar := ar) (fi := fi) (re := re) (okO_lt h.K.or) a x hx mm
  have hT := nights_tk (t := t) (n := n) (ar := ar) (fi := fi) (re := re) h.K a2 mm
  obtain ⟨q2, b2, b2', bc2, ar2, fi2, re2, e1, e2, K2, r2, w2, ar3, hle⟩ := nights_M (t := t) (n := n) (ar := ar) (fi := fi) (re := re) h.K h.r mm
  rw [e1] at hR hZ hT ⊢
  rw [e2]
  refine ⟨⟨K2, hR, h.T, r2, fun a k k1 k2 hk => (hZ a k hk).trans (h.z a k k1 k2 hk), ⟨A + (bc - bc2), ?_, hT, ?_⟩, ?_⟩, rfl, rfl⟩
  · show ar2 = nI (A + (bc - bc2))
    rw [ar3, a1, pk_sub hle, nI_add]
  · show A + (bc - bc2) + bc2 ≤ j + 1
    omega
  · show n + mm ≤ 60 * (j + 1)
    omega
end SIM2
