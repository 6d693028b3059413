/-! how long: arrives, lasts -/
theorem underE_iff {b : Fld} {x : Int32} : ∀ n, underE b n x = true ↔ ∃ i, i < n ∧ b 0 i = x
  | 0 => ⟨fun h => Bool.noConfusion h, fun ⟨i, h, _⟩ => absurd h (Nat.not_lt_zero i)⟩
  | n + 1 => by
    rw [underE_s, Bool.or_eq_true, underE_iff n, decide_eq_true_iff]
    constructor
    · rintro (⟨i, h1, h2⟩ | h)
      · exact ⟨i, by omega, h2⟩
      · exact ⟨n, by omega, h⟩
    · rintro ⟨i, h1, h2⟩
      rcases Nat.lt_or_eq_of_le (Nat.lt_succ_iff.mp h1) with h | h
      · exact Or.inl ⟨i, h, h2⟩
      · subst h; exact Or.inr h2
theorem bool_eq {x z : Bool} (h : x = true ↔ z = true) : x = z := by
  cases x <;> cases z <;> simp at h ⊢
theorem underE_ag {b b2 : Fld} {n : Nat} {x : Int32} (h : agW n b b2) : underE b2 n x = underE b n x := by
  refine bool_eq ?_
  rw [underE_iff, underE_iff]
  constructor
  · rintro ⟨i, h1, h2⟩; exact ⟨i, h1, (h i h1 0).symm.trans h2⟩
  · rintro ⟨i, h1, h2⟩; exact ⟨i, h1, (h i h1 0).trans h2⟩
theorem nights_W {t : Nat → Int32} {o : Nat → Nat} {q b b' : Fld} {c bc n : Nat} {ar fi re : Int32} (K : okN o q b c bc) (hr : ∀ a, 1 ≤ a → a ≤ 3 → b' a = b a) : ∀ k, ∃ g : Nat → Nat, ∀ i, i < (nightsE t o c k (q, b, bc, n, ar, fi, re)).2.2.1 → g i < bc ∧ (∃ P, k ≤ P ∧ P ≤ 39 ∧ (nightsE t o c k (q, b, bc, n, ar, fi, re)).2.1 2 i + 1 = nI P) ∧ (nightsE t o c k (q, b, bc, n, ar, fi, re)).2.1 0 i = b 0 (g i) ∧ (nightsM t c k (q, b', bc, n, ar, fi, re)).2.1 0 i = b' 0 (g i) := by
  intro k
  induction k with
  | zero =>
    refine ⟨fun i => i, fun i hi => ?_⟩
    obtain ⟨p, hp, e⟩ := K.ba i hi
    exact ⟨hi, ⟨p, Nat.zero_le p, hp, e⟩, rfl, rfl⟩
  | succ k ih =>
    obtain ⟨g, hg⟩ := ih
    obtain ⟨q1, b1, b1', bc1, ar1, fi1, re1, e1, e2, K1, r1, _⟩ := nights_M (t := t) (n := n) (ar := ar) (fi := fi) (re := re) K hr k
    rw [e1, e2] at hg
    obtain ⟨f, hf, _⟩ := night_W (t := t) (n := n + k) (ar := ar1) (fi := fi1) (re := re1) K1 r1
    rw [nightsE_s, nightsM_s, e1, e2]
    refine ⟨fun i => g (f i), fun i hi => ?_⟩
    obtain ⟨a1, ⟨p, P, p1, p2, p3, p4⟩, a3, a4⟩ := hf i hi
    obtain ⟨b1, ⟨P0, c1, c2, c3⟩, b3, b4⟩ := hg (f i) a1
    refine ⟨b1, ⟨P + 1, ?_, by omega, ?_⟩, a3.trans b3, a4.trans b4⟩
    · have h9 : P0 = p := (nI_eq (by omega) (by omega)).mp (c3.symm.trans p1)
      omega
    · rw [p4]; exact nI_1 P
theorem arrives_eq {t : Nat → Int32} {o : Nat → Nat} {q b b' : Fld} {c bc n j : Nat} {ar fi re : Int32} {T : TS} (K : okN o q b c bc) (hr : ∀ a, 1 ≤ a → a ≤ 3 → b' a = b a) (hw : ∀ i, i < bc → b' 0 i = nI i) (hj : j < bc) (htk : ∀ i, i < bc → b 0 i = b 0 j → i = j) :
    (∀ k, k < firstF (fun i => underE (itT i (copyT (t, o, q, b, c, bc, n, ar, fi, re) T)).2.2.2.1 (itT i (copyT (t, o, q, b, c, bc, n, ar, fi, re) T)).2.2.2.2.2.1 (b 0 j)) 40 → underE (nightsM t c k (q, b', bc, n, ar, fi, re)).2.1 (nightsM t c k (q, b', bc, n, ar, fi, re)).2.2.1 (nI j) = true) ∧
    underE (nightsM t c (firstF (fun i => underE (itT i (copyT (t, o, q, b, c, bc, n, ar, fi, re) T)).2.2.2.1 (itT i (copyT (t, o, q, b, c, bc, n, ar, fi, re) T)).2.2.2.2.2.1 (b 0 j)) 40) (q, b', bc, n, ar, fi, re)).2.1 (nightsM t c (firstF (fun i => underE (itT i (copyT (t, o, q, b, c, bc, n, ar, fi, re) T)).2.2.2.1 (itT i (copyT (t, o, q, b, c, bc, n, ar, fi, re) T)).2.2.2.2.2.1 (b 0 j)) 40) (q, b', bc, n, ar, fi, re)).2.2.1 (nI j) = false := by
  have hb5 := K.b5
  have same : ∀ k, underE (nightsM t c k (q, b', bc, n, ar, fi, re)).2.1 (nightsM t c k (q, b', bc, n, ar, fi, re)).2.2.1 (nI j) = underE (itT k (copyT (t, o, q, b, c, bc, n, ar, fi, re) T)).2.2.2.1 (itT k (copyT (t, o, q, b, c, bc, n, ar, fi, re) T)).2.2.2.2.2.1 (b 0 j) := by
    intro k
    obtain ⟨g, hg⟩ := nights_W (t := t) (n := n) (ar := ar) (fi := fi) (re := re) K hr k
    obtain ⟨q1, b1, b1', bc1, ar1, fi1, re1, e1, e2, K1, r1, _⟩ := nights_M (t := t) (n := n) (ar := ar) (fi := fi) (re := re) K hr k
    have ha := it_ag (t := t) (n := n) (ar := ar) (fi := fi) (re := re) (T := T) (b := b) (bc := bc) (q := q) K.c6 (okO_lt K.or) k
    rw [e1] at ha hg
    rw [e2] at hg ⊢
    obtain ⟨_, h2, h3⟩ := ha
    have h4 : (itT k (copyT (t, o, q, b, c, bc, n, ar, fi, re) T)).2.2.2.2.2.1 = bc1 := congrArg Prod.fst h3
    have h5 : agW bc1 b1 (itT k (copyT (t, o, q, b, c, bc, n, ar, fi, re) T)).2.2.2.1 := h2
    rw [h4, underE_ag h5]
    show underE b1' bc1 (nI j) = underE b1 bc1 (b 0 j)
    refine bool_eq ?_
    rw [underE_iff, underE_iff]
    constructor
    · rintro ⟨i, i1, i2⟩
      obtain ⟨g1, _, g3, g4⟩ := hg i i1
      have g3' : b1 0 i = b 0 (g i) := g3
      have g4' : b1' 0 i = b' 0 (g i) := g4
      rw [g4', hw _ g1] at i2
      have : g i = j := (nI_eq (by omega) (by omega)).mp i2
      exact ⟨i, i1, by rw [g3', this]⟩
    · rintro ⟨i, i1, i2⟩
      obtain ⟨g1, _, g3, g4⟩ := hg i i1
      have g3' : b1 0 i = b 0 (g i) := g3
      have g4' : b1' 0 i = b' 0 (g i) := g4
      rw [g3'] at i2
      have : g i = j := htk _ g1 i2
      exact ⟨i, i1, by rw [g4', this]; exact hw j hj⟩
  have end40 : underE (nightsM t c 40 (q, b', bc, n, ar, fi, re)).2.1 (nightsM t c 40 (q, b', bc, n, ar, fi, re)).2.2.1 (nI j) = false := by
    obtain ⟨g, hg⟩ := nights_W (t := t) (n := n) (ar := ar) (fi := fi) (re := re) K hr 40
    obtain ⟨q1, b1, b1', bc1, ar1, fi1, re1, e1, e2, K1, r1, _⟩ := nights_M (t := t) (n := n) (ar := ar) (fi := fi) (re := re) K hr 40
    rw [e1, e2] at hg
    rw [e2]
    refine eq_false_of_ne_true (fun h => ?_)
    obtain ⟨i, i1, _⟩ := (underE_iff _).mp h
    obtain ⟨_, ⟨P, p1, p2, _⟩, _⟩ := hg i i1
    omega
  rcases firstF_sp (fun i => underE (itT i (copyT (t, o, q, b, c, bc, n, ar, fi, re) T)).2.2.2.1 (itT i (copyT (t, o, q, b, c, bc, n, ar, fi, re) T)).2.2.2.2.2.1 (b 0 j)) 40 with ⟨h1, h2⟩ | ⟨h1, h2, h3⟩
  · refine ⟨fun k hk => (same k).trans (h2 k (by omega)), ?_⟩
    rw [h1]; exact end40
  · exact ⟨fun k hk => (same k).trans (h3 k hk), (same _).trans h2⟩
/-! a held weir loses wattle every night -/
theorem brkE_2 {q : Fld} {bp bw fi br : Int32} {c x w : Nat} (hw : w ≤ 100) (h : q 2 x = nI w) : ∀ k, ∃ w', w' ≤ w ∧ (brkE q k bp bw fi br).1 2 x = nI w'
  | 0 => ⟨w, Nat.le_refl w, h⟩
  | k + 1 => by
    obtain ⟨w', h1, h2⟩ := brkE_2 (bp := bp) (bw := bw) (fi := fi) (br := br) (c := c) hw h k
    rw [brkE_s]; unfold brkS
    split
    · split
      · by_cases hx : x = k
        · subst hx
          refine ⟨w' - 20, by omega, ?_⟩
          show breakW (brkE q x bp bw fi br).1 x bw 2 x = _
          rw [breakW_2, h2]
          exact f_lose2 ⟨w', by omega⟩ ⟨20, by omega⟩
        · exact ⟨w', h1, (breakW_k _ _ _ _ _ hx).trans h2⟩
      · exact ⟨w', h1, h2⟩
    · exact ⟨w', h1, h2⟩
theorem movE_2 {q b : Fld} {c x w : Nat} {fi : Int32} (hw : w ≤ 100) (h : q 2 x = nI w) : ∀ k, ∃ w', w' ≤ w ∧ (movE q b c k fi).1 2 x = nI w'
  | 0 => ⟨w, Nat.le_refl w, h⟩
  | k + 1 => by
    obtain ⟨w', h1, h2⟩ := movE_2 (b := b) (c := c) (fi := fi) hw h k
    rw [movE_s]
    obtain ⟨w2, h3, h4⟩ := brkE_2 (c := c) (bp := minI ((movE q b c k fi).2.1 2 k + 5) (farI (nextE (movE q b c k fi).1 c ((movE q b c k fi).2.1 2 k) ((movE q b c k fi).2.1 1 k)))) (bw := (movE q b c k fi).2.1 1 k) (fi := (movE q b c k fi).2.2) (br := (movE q b c k fi).2.1 3 k) (w := w') (by omega) h2 c
    exact ⟨w2, by omega, h4⟩
theorem rotI_n1 (n : Nat) : ∃ m, 1 ≤ m ∧ m ≤ 20 ∧ rotI n = nI m := by
  unfold rotI
  split
  · exact ⟨1, by omega, by omega, rfl⟩
  · exact ⟨3, by omega, by omega, rfl⟩
theorem rotE_2 {q : Fld} {c x w n : Nat} (hw : w ≤ 100) (h : q 2 x = nI w) (hh : heldB q x = true) : ∀ k, (k ≤ x → (rotE q k n) 2 x = nI w) ∧ (x < k → ∃ w', w' ≤ w - 1 ∧ (rotE q k n) 2 x = nI w') := by
  intro k
  induction k with
  | zero => exact ⟨fun _ => h, fun h9 => absurd h9 (Nat.not_lt_zero x)⟩
  | succ k ih =>
    refine ⟨fun hk => ?_, fun hk => ?_⟩
    · rw [rotE_k q n 2 (k + 1) x hk]; exact h
    · by_cases hx : x = k
      · subst hx
        have e7 : (rotE q x n) 7 x = q 7 x := rotE_k q n 7 x x (Nat.le_refl x)
        have e2 : (rotE q x n) 2 x = nI w := ih.1 (Nat.le_refl x)
        obtain ⟨m, m1, m2, m3⟩ := rotI_n1 n
        refine ⟨w - m, by omega, ?_⟩
        rw [rotE_s, if_pos (by rw [held_c e7]; exact hh)]
        have e3 : loseW (rotE q x n) x (rotI n) 2 x = loseI ((rotE q x n) 2 x) (rotI n) := up2_s _ _ _ _
        rw [e3, e2, m3]
        exact f_lose2 ⟨w, by omega⟩ ⟨m, by omega⟩
      · obtain ⟨w', h1, h2⟩ := ih.2 (by omega)
        refine ⟨w', h1, ?_⟩
        rw [rotE_s]
        split
        · exact (loseW_k _ _ _ _ _ hx).trans h2
        · exact h2
theorem night_2 {t : Nat → Int32} {o : Nat → Nat} {q b : Fld} {c bc n x w : Nat} {ar fi re : Int32} (K : okN o q b c bc) (hx : x < c) (hw : w ≤ 100) (h : q 2 x = nI w) (hh : heldB q x = true) : ∃ w', w' ≤ w - 1 ∧ (nightE t o c (q, b, bc, n, ar, fi, re)).1 2 x = nI w' := by
  have e1 : (catchE o q c (runI t n)) 2 x = nI w := by rw [catchE_r (by decide)]; exact h
  have cw : okWt (catchE o q c (runI t n)) c := fun i hi => by rw [catchE_r (by decide)]; exact K.wt i hi
  have cp : okPl (catchE o q c (runI t n)) c := fun i hi => by rw [catchE_r (by decide)]; exact K.pl i hi
  obtain ⟨_, _, _, m4, m5, _⟩ := upM_mov (fi := fi) K.c6 cw cp K.ba (fun _ _ _ => rfl) bc (Nat.le_refl bc)
  obtain ⟨w1, h1, h2⟩ := movE_2 (b := b) (c := c) (fi := fi) hw e1 bc
  have e7 : (movE (catchE o q c (runI t n)) b c bc fi).1 7 x = q 7 x := by rw [m5 7 (by decide) (by decide) (by decide), catchE_r (by decide)]
  obtain ⟨w2, h3, h4⟩ := (rotE_2 (c := c) (n := n) (w := w1) (by omega) h2 (by rw [held_c e7]; exact hh) c).2 hx
  obtain ⟨_, r2⟩ := rotE_ok (n := n) m4 c
  have s7 : okOw (rotE (movE (catchE o q c (runI t n)) b c bc fi).1 c n) c := fun i hi => by
    rw [r2 7 (by decide), m5 7 (by decide) (by decide) (by decide), catchE_r (by decide)]; exact K.ow i hi
  obtain ⟨_, n2⟩ := rentE_ok (re := re) s7 c
  refine ⟨w2, by omega, ?_⟩
  unfold nightE
  dsimp only
  by_cases h13 : n % 14 = 13
  · rw [if_pos h13]
    show (rentE _ c re).1 2 x = nI w2
    rw [n2 2 (by decide) (by decide) (by decide)]; exact h4
  · rw [if_neg h13]; exact h4
theorem lasts_eq {t : Nat → Int32} {o : Nat → Nat} {q b b' : Fld} {c bc n x : Nat} {ar fi re : Int32} {T : TS} (K : okN o q b c bc) (hr : ∀ a, 1 ≤ a → a ≤ 3 → b' a = b a) (hx : x < c) :
    (∀ k, k < firstF (fun i => heldB (itT i (copyT (t, o, q, b, c, bc, n, ar, fi, re) T)).2.2.1 x && decide (0 < (itT i (copyT (t, o, q, b, c, bc, n, ar, fi, re) T)).2.2.1 2 x)) 100 → 0 < (nightsM t c k (q, b', bc, n, ar, fi, re)).1 2 x ∧ heldB (nightsM t c k (q, b', bc, n, ar, fi, re)).1 x = true) ∧
    ((nightsM t c (firstF (fun i => heldB (itT i (copyT (t, o, q, b, c, bc, n, ar, fi, re) T)).2.2.1 x && decide (0 < (itT i (copyT (t, o, q, b, c, bc, n, ar, fi, re) T)).2.2.1 2 x)) 100) (q, b', bc, n, ar, fi, re)).1 2 x ≤ 0 ∨ heldB (nightsM t c (firstF (fun i => heldB (itT i (copyT (t, o, q, b, c, bc, n, ar, fi, re) T)).2.2.1 x && decide (0 < (itT i (copyT (t, o, q, b, c, bc, n, ar, fi, re) T)).2.2.1 2 x)) 100) (q, b', bc, n, ar, fi, re)).1 x = false) := by
  have same : ∀ k, (heldB (itT k (copyT (t, o, q, b, c, bc, n, ar, fi, re) T)).2.2.1 x && decide (0 < (itT k (copyT (t, o, q, b, c, bc, n, ar, fi, re) T)).2.2.1 2 x)) = (heldB (nightsM t c k (q, b', bc, n, ar, fi, re)).1 x && decide (0 < (nightsM t c k (q, b', bc, n, ar, fi, re)).1 2 x)) := by
    intro k
    obtain ⟨h1, _⟩ := ahead_eq K hr (it_ag (t := t) (n := n) (ar := ar) (fi := fi) (re := re) (T := T) K.c6 (okO_lt K.or) k)
    have e1 : (itT k (copyT (t, o, q, b, c, bc, n, ar, fi, re) T)).2.2.1 2 x = (nightsM t c k (q, b', bc, n, ar, fi, re)).1 2 x := ax_at h1 hx 2
    have e2 : heldB (itT k (copyT (t, o, q, b, c, bc, n, ar, fi, re) T)).2.2.1 x = heldB (nightsM t c k (q, b', bc, n, ar, fi, re)).1 x := held_ax h1 hx
    rw [e1, e2]
  have low : ∀ k, k ≤ 100 → (∀ i, i < k → (heldB (nightsM t c i (q, b', bc, n, ar, fi, re)).1 x && decide (0 < (nightsM t c i (q, b', bc, n, ar, fi, re)).1 2 x)) = true) → ∃ w, w ≤ 100 - k ∧ (nightsM t c k (q, b', bc, n, ar, fi, re)).1 2 x = nI w := by
    intro k
    induction k with
    | zero => intro _ _; exact K.wt x hx
    | succ k ih =>
      intro hk hp
      obtain ⟨w, h1, h2⟩ := ih (by omega) (fun i hi => hp i (by omega))
      obtain ⟨hh, _⟩ := Bool.and_eq_true_iff.mp (hp k (by omega))
      obtain ⟨q1, b1, b1', bc1, ar1, fi1, re1, e1, e2, K1, r1, _⟩ := nights_M (t := t) (n := n) (ar := ar) (fi := fi) (re := re) K hr k
      obtain ⟨q2, b2, b2', bc2, ar2, fi2, re2, e3, e4, _⟩ := nights_M (t := t) (n := n) (ar := ar) (fi := fi) (re := re) K hr (k + 1)
      rw [e2] at h2 hh
      obtain ⟨w', h3, h4⟩ := night_2 (t := t) (n := n + k) (ar := ar1) (fi := fi1) (re := re1) K1 hx (w := w) (by omega) h2 hh
      rw [e4]
      rw [nightsE_s, e1] at e3
      rw [e3] at h4
      exact ⟨w', by omega, h4⟩
  have end100 : ∀ k, k = 100 → (∀ i, i < k → (heldB (nightsM t c i (q, b', bc, n, ar, fi, re)).1 x && decide (0 < (nightsM t c i (q, b', bc, n, ar, fi, re)).1 2 x)) = true) → (nightsM t c k (q, b', bc, n, ar, fi, re)).1 2 x ≤ 0 := by
    intro k hk hp
    obtain ⟨w, h1, h2⟩ := low k (by omega) hp
    rw [h2, show w = 0 by omega]; decide
  rcases firstF_sp (fun i => heldB (itT i (copyT (t, o, q, b, c, bc, n, ar, fi, re) T)).2.2.1 x && decide (0 < (itT i (copyT (t, o, q, b, c, bc, n, ar, fi, re) T)).2.2.1 2 x)) 100 with ⟨h1, h2⟩ | ⟨h1, h2, h3⟩
  · refine ⟨fun k hk => ?_, ?_⟩
    · have h9 := h2 k (by omega)
      rw [same k] at h9
      obtain ⟨a1, a2⟩ := Bool.and_eq_true_iff.mp h9
      exact ⟨of_decide_eq_true a2, a1⟩
    · refine Or.inl (end100 _ h1 (fun i hi => ?_))
      have h9 := h2 i (by omega)
      rw [same i] at h9
      exact h9
  · refine ⟨fun k hk => ?_, ?_⟩
    · have h9 := h3 k hk
      rw [same k] at h9
      obtain ⟨a1, a2⟩ := Bool.and_eq_true_iff.mp h9
      exact ⟨of_decide_eq_true a2, a1⟩
    · rw [same] at h2
      rcases Bool.and_eq_false_iff.mp h2 with h9 | h9
      · exact Or.inr h9
      · exact Or.inl (Int32.not_lt.mp (of_decide_eq_false h9))
