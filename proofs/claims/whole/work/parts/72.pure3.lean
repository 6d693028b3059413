/-- the nearest place, of a number: all places are numbers below 40 -/
theorem nI_le_iff {a b : Nat} (ha : a < 2147483648) (hb : b < 2147483648) : nI a ≤ nI b ↔ a ≤ b := ⟨fun h => Nat.le_of_not_lt (fun h2 => nI_ge h2 ha h), fun h => nI_le h hb⟩
theorem nI_lt_iff {a b : Nat} (ha : a < 2147483648) (hb : b < 2147483648) : nI a < nI b ↔ a < b := ⟨fun h => Nat.lt_of_not_le (fun h2 => nI_nlt h2 ha h), fun h => nI_lt h hb⟩
theorem f_gt : ∀ p P : Fin 41, (nI p.val - 1 < nI P.val ↔ p.val ≤ P.val) := by decide +kernel
theorem bp_lt {x : Int32} {p P : Nat} (hx : x + 1 = nI p) (hp : p ≤ 40) (hP : P ≤ 40) : x < nI P ↔ p ≤ P := by
  have e : x = nI p - 1 := by rw [← hx, Int32.add_sub_cancel]
  rw [e]; exact f_gt ⟨p, by omega⟩ ⟨P, by omega⟩
/-- what the class's search for the next weir in the way finds -/
theorem nextE_sp {q : Fld} {bp bw : Int32} {p : Nat} (hx : bp + 1 = nI p) (hp : p ≤ 40) : ∀ {c : Nat}, (∀ i, i < c → ∃ P, P < 40 ∧ q 0 i = nI P) →
    ((nextE q c bp bw = (-1, 40) ∧ ∀ i P, i < c → q 0 i = nI P → P < 40 → p ≤ P → wayB q i bw = false) ∨
     ∃ i P, i < c ∧ P < 40 ∧ p ≤ P ∧ q 0 i = nI P ∧ wayB q i bw = true ∧ nextE q c bp bw = (nI i, nI P) ∧ ∀ i2 P2, i2 < c → q 0 i2 = nI P2 → P2 < 40 → p ≤ P2 → wayB q i2 bw = true → P < P2 ∨ (P = P2 ∧ i ≤ i2))
  | 0, _ => Or.inl ⟨rfl, fun i _ h => absurd h (Nat.not_lt_zero i)⟩
  | c + 1, hpl => by
    have ih := nextE_sp (q := q) (bw := bw) hx hp (c := c) (fun i hi => hpl i (by omega))
    obtain ⟨P0, hP0, e0⟩ := hpl c (by omega)
    rw [nextE_s]
    unfold nextS
    rw [e0]
    have hbp := bp_lt (P := P0) hx hp (by omega)
    rcases ih with ⟨e, hno⟩ | ⟨i, P, hi, hP, hpP, eP, hw, e, hmin⟩
    · rw [e]
      by_cases h1 : p ≤ P0
      · by_cases h2 : wayB q c bw = true
        · rw [if_pos (hbp.mpr h1), if_pos (show nI P0 < 40 from (nI_lt_iff (b := 40) (by omega) (by omega)).mpr hP0), if_pos h2]
          refine Or.inr ⟨c, P0, by omega, hP0, h1, e0, h2, rfl, ?_⟩
          intro i2 P2 hi2 e2 hP2 hp2 hw2
          rcases Nat.lt_or_eq_of_le (Nat.lt_succ_iff.mp hi2) with h | h
          · exact absurd hw2 (by rw [hno i2 P2 h e2 hP2 hp2]; decide)
          · subst h
            have := (nI_eq (by omega) (by omega)).mp (e0.symm.trans e2)
            exact Or.inr ⟨this, Nat.le_refl _⟩
        · rw [if_pos (hbp.mpr h1), if_pos (show nI P0 < 40 from (nI_lt_iff (b := 40) (by omega) (by omega)).mpr hP0), if_neg h2]
          refine Or.inl ⟨rfl, ?_⟩
          intro i2 P2 hi2 e2 hP2 hp2
          rcases Nat.lt_or_eq_of_le (Nat.lt_succ_iff.mp hi2) with h | h
          · exact hno i2 P2 h e2 hP2 hp2
          · subst h; exact eq_false_of_ne_true h2
      · rw [if_neg (fun h => h1 (hbp.mp h))]
        refine Or.inl ⟨rfl, ?_⟩
        intro i2 P2 hi2 e2 hP2 hp2
        rcases Nat.lt_or_eq_of_le (Nat.lt_succ_iff.mp hi2) with h | h
        · exact hno i2 P2 h e2 hP2 hp2
        · subst h
          have := (nI_eq (by omega) (by omega)).mp (e0.symm.trans e2)
          omega
    · rw [e]
      have old : (¬ (p ≤ P0 ∧ P0 < P ∧ wayB q c bw = true)) → ((nI i, nI P) : Int32 × Int32) = (-1, 40) ∧ (∀ i P, i < c + 1 → q 0 i = nI P → P < 40 → p ≤ P → wayB q i bw = false) ∨ ∃ i1 P1, i1 < c + 1 ∧ P1 < 40 ∧ p ≤ P1 ∧ q 0 i1 = nI P1 ∧ wayB q i1 bw = true ∧ ((nI i, nI P) : Int32 × Int32) = (nI i1, nI P1) ∧ ∀ i2 P2, i2 < c + 1 → q 0 i2 = nI P2 → P2 < 40 → p ≤ P2 → wayB q i2 bw = true → P1 < P2 ∨ (P1 = P2 ∧ i1 ≤ i2) := fun hn => Or.inr ⟨i, P, by omega, hP, hpP, eP, hw, rfl, fun i2 P2 hi2 e2 hP2 hp2 hw2 => by
          rcases Nat.lt_or_eq_of_le (Nat.lt_succ_iff.mp hi2) with h | h
          · exact hmin i2 P2 h e2 hP2 hp2 hw2
          · subst h
            have h9 := (nI_eq (by omega) (by omega)).mp (e0.symm.trans e2)
            by_cases h8 : P0 < P
            · exact absurd ⟨by omega, h8, hw2⟩ hn
            · rcases Nat.lt_or_eq_of_le (Nat.le_of_not_lt h8) with h7 | h7
              · exact Or.inl (by omega)
              · exact Or.inr ⟨by omega, by omega⟩⟩
      by_cases h1 : p ≤ P0
      · rw [if_pos (hbp.mpr h1)]
        by_cases h3 : P0 < P
        · rw [if_pos (show nI P0 < nI P from (nI_lt_iff (by omega) (by omega)).mpr h3)]
          by_cases h2 : wayB q c bw = true
          · rw [if_pos h2]
            refine Or.inr ⟨c, P0, by omega, hP0, h1, e0, h2, rfl, ?_⟩
            intro i2 P2 hi2 e2 hP2 hp2 hw2
            rcases Nat.lt_or_eq_of_le (Nat.lt_succ_iff.mp hi2) with h | h
            · rcases hmin i2 P2 h e2 hP2 hp2 hw2 with h9 | ⟨h9, _⟩
              · exact Or.inl (by omega)
              · exact Or.inl (by omega)
            · subst h
              have := (nI_eq (by omega) (by omega)).mp (e0.symm.trans e2)
              exact Or.inr ⟨this, Nat.le_refl _⟩
          · rw [if_neg h2]; exact old (fun h => h2 h.2.2)
        · rw [if_neg (show ¬ nI P0 < nI P from fun h => h3 ((nI_lt_iff (by omega) (by omega)).mp h))]; exact old (fun h => h3 h.2.1)
      · rw [if_neg (fun h => h1 (hbp.mp h))]; exact old (fun h => h1 h.1)
theorem hitB_f {q : Fld} {bp bw : Int32} : ∀ {c : Nat}, (∀ i, i < c → q 0 i = bp → wayB q i bw = false) → hitB q bp bw c = false
  | 0, _ => rfl
  | c + 1, h => by
    rw [hitB_s, hitB_f (fun i hi => h i (by omega)), Bool.false_or]
    by_cases h1 : q 0 c = bp
    · rw [h c (by omega) h1, Bool.and_false]
    · rw [decide_eq_false h1, Bool.false_and]
theorem hitB_t {q : Fld} {bp bw : Int32} : ∀ {c i : Nat}, i < c → q 0 i = bp → wayB q i bw = true → hitB q bp bw c = true
  | 0, i, h, _, _ => absurd h (Nat.not_lt_zero i)
  | c + 1, i, h, h1, h2 => by
    rw [hitB_s]
    rcases Nat.lt_or_eq_of_le (Nat.lt_succ_iff.mp h) with h9 | h9
    · rw [hitB_t h9 h1 h2, Bool.true_or]
    · subst h9; rw [decide_eq_true h1, h2, Bool.and_self, Bool.or_true]
theorem f_min : ∀ p F : Fin 40, minI (nI p.val - 1 + 5) (nI F.val) = nI (min (p.val + 4) F.val) := by decide +kernel
/-- one barge's night: five places, or to the next weir in the way -/
theorem guE_mov {q b b' : Fld} {c j p : Nat} {fi : Int32} (hw : ∀ i, i < c → ∃ w, w ≤ 100 ∧ q 2 i = nI w) (hpl : ∀ i, i < c → ∃ P, P < 40 ∧ q 0 i = nI P) (hc : c ≤ 6) (hp : p ≤ 39) (hx : b 2 j + 1 = nI p) (hr : ∀ a, 1 ≤ a → a ≤ 3 → b' a = b a) :
    (guE c j 5 (q, b', fi)).1 = (movS c j (q, b, fi)).1 ∧ (guE c j 5 (q, b', fi)).2.2 = (movS c j (q, b, fi)).2.2 ∧ (∀ a, 1 ≤ a → a ≤ 3 → (guE c j 5 (q, b', fi)).2.1 a = (movS c j (q, b, fi)).2.1 a) ∧ ∃ P, p ≤ P ∧ P ≤ 39 ∧ (movS c j (q, b, fi)).2.1 2 j = nI P := by
  have h1 : b' 1 = b 1 := hr 1 (by omega) (by omega)
  have h2 : b' 2 = b 2 := hr 2 (by omega) (by omega)
  have h3 : b' 3 = b 3 := hr 3 (by omega) (by omega)
  have ex : b 2 j = nI p - 1 := by rw [← hx, Int32.add_sub_cancel]
  -- where the next one in the way is, or the last place
  have key : ∃ F, p ≤ F ∧ F ≤ 39 ∧ farI (nextE q c (b 2 j) (b 1 j)) = nI F ∧ (hitB q (nI F) (b 1 j) c = true ∨ F = 39) ∧ ∀ P, p ≤ P → P < F → hitB q (nI P) (b 1 j) c = false := by
    rcases nextE_sp (q := q) (bw := b 1 j) hx (by omega) hpl with ⟨e, hno⟩ | ⟨i, P, hi, hP, hpP, eP, hwy, e, hmin⟩
    · refine ⟨39, hp, Nat.le_refl _, by rw [e]; rfl, Or.inr rfl, fun P h4 h5 => hitB_f (fun i hi hq => hno i P hi hq (by omega) h4)⟩
    · refine ⟨P, hpP, by omega, ?_, Or.inl (hitB_t hi eP hwy), fun P2 h4 h5 => hitB_f (fun i2 hi2 hq => ?_)⟩
      · rw [e]; unfold farI; rw [if_neg (nI_nm1 (by omega))]
      · by_cases h9 : wayB q i2 (b 1 j) = true
        · rcases hmin i2 P2 hi2 hq (by omega) h4 h9 with h8 | ⟨h8, _⟩ <;> omega
        · exact eq_false_of_ne_true h9
  obtain ⟨F, hpF, hF, hfar, hH, hN⟩ := key
  have hg := guE_at (j := j) (fi := fi) hF hw hH 4 b' p (by rw [h1]) (by rw [h2]; exact hx) hpF hN
  have hpl2 : minI (b 2 j + 5) (farI (nextE q c (b 2 j) (b 1 j))) = nI (min (p + 4) F) := by
    rw [hfar, ex]; exact f_min ⟨p, by omega⟩ ⟨F, by omega⟩
  rw [hg]
  unfold atM movS
  dsimp only
  rw [hpl2, h1, h3]
  refine ⟨rfl, rfl, ?_, min (p + 4) F, by omega, by omega, ?_⟩
  · intro a ha1 ha3
    rcases (show a = 1 ∨ a = 2 ∨ a = 3 by omega) with rfl | rfl | rfl
    · show b' 1 = b 1; exact h1
    · show upd (b' 2) j _ = upd (b 2) j _; rw [h2]
    · show upd (b' 3) j _ = upd (b 3) j _; rw [h3]
  · rw [up2_j _ _ _ _ _ _ (show (2 : Nat) ≠ 3 by decide), up2_s]
