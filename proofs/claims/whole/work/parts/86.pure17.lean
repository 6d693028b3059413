/-! advise -/
def advV (t : Nat → Int32) (o : Nat → Nat) (c k mm : Nat) (N : Nst) (x : Int32) : Int32 := (nightsE t o c mm (up2 N.1 1 k x, N.2)).1 5 k
def advF (e : Int32 → Int32) (i : Nat) (a : Int32 × Int32) : Int32 × Int32 := if a.2 < e (nI (i + 1)) then (nI (i + 1), e (nI (i + 1))) else a
theorem eelsT_eq {t : Nat → Int32} {o : Nat → Nat} {q b : Fld} {c bc n k mm : Nat} {ar fi re x : Int32} {T : TS} (hc : c ≤ 6) (ho : ∀ i, i < c → o i < c) (hk : k < c) : (eelsT (t, o, q, b, c, bc, n, ar, fi, re) T k mm x).2.2.1 5 k = advV t o c k mm (q, b, bc, n, ar, fi, re) x := by
  have h0 : agN c c (up2 q 1 k x, b, bc, n, ar, fi, re) (nsT (stakeT (copyT (t, o, q, b, c, bc, n, ar, fi, re) T) k x)) :=
    ⟨up2_ax (by decide) (by decide) ⟨fun _ hi _ _ => cpN_lt _ _ hi, fun h => absurd h (Nat.lt_irrefl c)⟩, fun _ hi _ => cpN_lt _ _ hi, rfl⟩
  have h1 := nightsE_ax (t2 := cpN 7 t T.1) (o2 := cpN 6 o T.2.1) (cpt7 (t := t)) ho (cpo6 hc) h0 mm
  exact ax_at h1.1 hk 5
theorem advE_F {t : Nat → Int32} {o : Nat → Nat} {q b : Fld} {c bc n k mm : Nat} {ar fi re : Int32} {T : TS} (hc : c ≤ 6) (ho : ∀ i, i < c → o i < c) (hk : k < c) : ∀ i, ((advE (t, o, q, b, c, bc, n, ar, fi, re) T k mm i).1, (advE (t, o, q, b, c, bc, n, ar, fi, re) T k mm i).2.1) = itN (advF (advV t o c k mm (q, b, bc, n, ar, fi, re))) i (1, -1) := by
  intro i
  induction i with
  | zero => rfl
  | succ i ih =>
    rw [advE_s, itN_s, ← ih]
    unfold advS advF
    rw [eelsT_eq hc ho hk]
    dsimp only
    split
    · rfl
    · rfl
theorem advM_F {t : Nat → Int32} {o : Nat → Nat} {q b b' : Fld} {c bc n k mm : Nat} {ar fi re : Int32} {T : Nst} (K : okN o q b c bc) (hr : ∀ a, 1 ≤ a → a ≤ 3 → b' a = b a) : ∀ i, ((advM t c k mm (q, b', bc, n, ar, fi, re) T i).1, (advM t c k mm (q, b', bc, n, ar, fi, re) T i).2.1) = itN (advF (advV t o c k mm (q, b, bc, n, ar, fi, re))) i (0, -1) := by
  intro i
  induction i with
  | zero => rfl
  | succ i ih =>
    have K1 : okN o (up2 q 1 k (nI (i + 1))) b c bc := by
      refine ⟨K.c6, K.b5, ?_, ?_, ?_, ?_, ?_, K.ba⟩
      · rw [up2_r (by decide)]; exact K.or
      · intro z hz; rw [up2_r (by decide)]; exact K.pl z hz
      · intro z hz; rw [up2_r (by decide)]; exact K.wt z hz
      · intro z hz; rw [up2_r (by decide)]; exact K.op z hz
      · intro z hz; rw [up2_r (by decide)]; exact K.ow z hz
    obtain ⟨q2, b2, b2', bc2, ar2, fi2, re2, e1, e2, _⟩ := nights_M (t := t) (n := n) (ar := ar) (fi := fi) (re := re) K1 hr mm
    have e3 : (nightsM t c mm (up2 q 1 k (nI (i + 1)), b', bc, n, ar, fi, re)).1 5 k = advV t o c k mm (q, b, bc, n, ar, fi, re) (nI (i + 1)) := by
      unfold advV; dsimp only; rw [e1, e2]
    rw [advM_s, itN_s, ← ih]
    unfold advMS advF
    dsimp only
    rw [e3]
    by_cases h : advV t o c k mm (q, b, bc, n, ar, fi, re) (nI (i + 1)) ≤ (advM t c k mm (q, b', bc, n, ar, fi, re) T i).2.1
    · rw [if_pos h, if_neg (Int32.not_lt.mpr h)]
    · rw [if_neg h, if_pos (Int32.not_le.mp h)]
theorem advF_one {e : Int32 → Int32} (h : -1 < e (nI 1)) : ∀ i, itN (advF e) (i + 1) (1, -1) = itN (advF e) (i + 1) (0, -1) := by
  intro i
  induction i with
  | zero =>
    have h1 : itN (advF e) (0 + 1) (1, -1) = (nI 1, e (nI 1)) := by
      show advF e 0 (1, -1) = _
      unfold advF; rw [if_pos h]
    have h2 : itN (advF e) (0 + 1) (0, -1) = (nI 1, e (nI 1)) := by
      show advF e 0 (0, -1) = _
      unfold advF; rw [if_pos h]
    rw [h1, h2]
  | succ i ih => rw [itN_s, ih, itN_s (n := i + 1) (x := ((0, -1) : Int32 × Int32))]
theorem advF_const {e : Int32 → Int32} (h : -1 < e (nI 1)) (hc : ∀ x, e x = e (nI 1)) : ∀ i, itN (advF e) (i + 1) (0, -1) = (1, e (nI 1)) := by
  intro i
  induction i with
  | zero =>
    show advF e 0 (0, -1) = _
    unfold advF; rw [if_pos h]; rfl
  | succ i ih =>
    rw [itN_s, ih]
    unfold advF
    dsimp only
    rw [hc (nI (i + 1 + 1)), if_neg Int32.lt_irrefl]
theorem advV_ok {t : Nat → Int32} {o : Nat → Nat} {q b : Fld} {c bc n k mm : Nat} {ar fi re : Int32} (K : okN o q b c bc) (hT : okTb t) (hR : okR q b c bc) (hk : k < c) : -1 < advV t o c k mm (q, b, bc, n, ar, fi, re) (nI 1) := by
  have K1 : okN o (up2 q 1 k (nI 1)) b c bc := by
    refine ⟨K.c6, K.b5, ?_, ?_, ?_, ?_, ?_, K.ba⟩
    · rw [up2_r (by decide)]; exact K.or
    · intro z hz; rw [up2_r (by decide)]; exact K.pl z hz
    · intro z hz; rw [up2_r (by decide)]; exact K.wt z hz
    · intro z hz; rw [up2_r (by decide)]; exact K.op z hz
    · intro z hz; rw [up2_r (by decide)]; exact K.ow z hz
  have R1 : okR (up2 q 1 k (nI 1)) b c bc := by
    refine ⟨fun z hz => ?_, fun z hz => ?_, hR.2.2⟩
    · by_cases hzk : z = k
      · subst hzk; exact ⟨1, by omega, up2_s _ _ _ _⟩
      · rw [up2_k _ _ _ _ _ _ hzk]; exact hR.1 z hz
    · rw [up2_r (by decide)]; exact hR.2.1 z hz
  obtain ⟨_, h5, _⟩ := nights_R (t := t) (n := n) (ar := ar) (fi := fi) (re := re) K1 hT R1 mm
  obtain ⟨e, he, h⟩ := h5 k hk
  unfold advV
  dsimp only
  rw [h]
  have f : ∀ e : Fin 201, -1 < nI e.val := by decide +kernel
  exact f ⟨e, by omega⟩
theorem advise_eq0 {t : Nat → Int32} {o : Nat → Nat} {q b b' : Fld} {c bc n k mm : Nat} {ar fi re : Int32} {T : TS} {T' : Nst} (K : okN o q b c bc) (hT : okTb t) (hR : okR q b c bc) (hr : ∀ a, 1 ≤ a → a ≤ 3 → b' a = b a) (hk : k < c) (i : Nat) : (advE (t, o, q, b, c, bc, n, ar, fi, re) T k mm (i + 1)).1 = (advM t c k mm (q, b', bc, n, ar, fi, re) T' (i + 1)).1 := by
  have h1 : (advE (t, o, q, b, c, bc, n, ar, fi, re) T k mm (i + 1)).1 = (itN (advF (advV t o c k mm (q, b, bc, n, ar, fi, re))) (i + 1) (1, -1)).1 := congrArg Prod.fst (advE_F (t := t) (b := b) (n := n) (mm := mm) (ar := ar) (fi := fi) (re := re) (T := T) (bc := bc) (q := q) K.c6 (okO_lt K.or) hk (i + 1))
  have h2 : (advM t c k mm (q, b', bc, n, ar, fi, re) T' (i + 1)).1 = (itN (advF (advV t o c k mm (q, b, bc, n, ar, fi, re))) (i + 1) (0, -1)).1 := congrArg Prod.fst (advM_F (t := t) (n := n) (k := k) (mm := mm) (ar := ar) (fi := fi) (re := re) (T := T') K hr (i + 1))
  rw [h1, h2, advF_one (advV_ok (n := n) (mm := mm) (ar := ar) (fi := fi) (re := re) K hT hR hk) i]
theorem advise_eq {t : Nat → Int32} {o : Nat → Nat} {q b b' : Fld} {c bc n k mm : Nat} {ar fi re : Int32} {T : TS} {T' : Nst} (K : okN o q b c bc) (hT : okTb t) (hR : okR q b c bc) (hr : ∀ a, 1 ≤ a → a ≤ 3 → b' a = b a) (hk : k < c) : (advE (t, o, q, b, c, bc, n, ar, fi, re) T k mm 30).1 = (advM t c k mm (q, b', bc, n, ar, fi, re) T' 30).1 := advise_eq0 K hT hR hr hk 29
theorem advise_no_eq0 {t : Nat → Int32} {o : Nat → Nat} {q b b' : Fld} {c bc n k mm : Nat} {ar fi re : Int32} {T' : Nst} (K : okN o q b c bc) (hT : okTb t) (hR : okR q b c bc) (hr : ∀ a, 1 ≤ a → a ≤ 3 → b' a = b a) (hk : k < c) (hf : fishB q k = false) (i : Nat) : (advM t c k mm (q, b', bc, n, ar, fi, re) T' (i + 1)).1 = 1 := by
  have h2 : (advM t c k mm (q, b', bc, n, ar, fi, re) T' (i + 1)).1 = (itN (advF (advV t o c k mm (q, b, bc, n, ar, fi, re))) (i + 1) (0, -1)).1 := congrArg Prod.fst (advM_F (t := t) (n := n) (k := k) (mm := mm) (ar := ar) (fi := fi) (re := re) (T := T') K hr (i + 1))
  have hc : ∀ x, advV t o c k mm (q, b, bc, n, ar, fi, re) x = advV t o c k mm (q, b, bc, n, ar, fi, re) (nI 1) := by
    intro x
    have h0 : agN c k (up2 q 1 k (nI 1), b, bc, n, ar, fi, re) (up2 q 1 k x, b, bc, n, ar, fi, re) := by
      refine ⟨⟨fun i hi j hj => ?_, fun _ => by rw [up2_fish (by decide) (by decide)]; exact hf⟩, fun _ _ _ => rfl, rfl⟩
      rcases hj with hj | hj
      · exact (up2_j _ _ _ _ _ _ hj).trans (up2_j _ _ _ _ _ _ hj).symm
      · exact (up2_k _ _ _ _ _ _ hj).trans (up2_k _ _ _ _ _ _ hj).symm
    have h1 := nightsE_ax (t2 := t) (o2 := o) (fun _ _ => rfl) (okO_lt K.or) (fun _ _ => rfl) h0 mm
    exact h1.1.1 k hk 5 (Or.inl (by decide))
  rw [h2, advF_const (advV_ok (n := n) (mm := mm) (ar := ar) (fi := fi) (re := re) K hT hR hk) hc i]
theorem advise_no_eq {t : Nat → Int32} {o : Nat → Nat} {q b b' : Fld} {c bc n k mm : Nat} {ar fi re : Int32} {T' : Nst} (K : okN o q b c bc) (hT : okTb t) (hR : okR q b c bc) (hr : ∀ a, 1 ≤ a → a ≤ 3 → b' a = b a) (hk : k < c) (hf : fishB q k = false) : (advM t c k mm (q, b', bc, n, ar, fi, re) T' 30).1 = 1 := advise_no_eq0 K hT hR hr hk hf 29
