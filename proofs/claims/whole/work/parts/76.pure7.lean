theorem f_sub3 : ∀ x z w : Fin 6, (nI x.val - nI z.val) + (nI z.val - nI w.val) = nI x.val - nI w.val := by decide +kernel
/-- any number of nights -/
theorem nights_M {t : Nat → Int32} {o : Nat → Nat} {q b b' : Fld} {c bc n : Nat} {ar fi re : Int32} (K : okN o q b c bc) (hr : ∀ a, 1 ≤ a → a ≤ 3 → b' a = b a) : ∀ k,
    ∃ (q2 b2 b2' : Fld) (bc2 : Nat) (ar2 fi2 re2 : Int32), nightsE t o c k (q, b, bc, n, ar, fi, re) = (q2, b2, bc2, n + k, ar2, fi2, re2) ∧ nightsM t c k (q, b', bc, n, ar, fi, re) = (q2, b2', bc2, n + k, ar2, fi2, re2) ∧ okN o q2 b2 c bc2 ∧ (∀ a, 1 ≤ a → a ≤ 3 → b2' a = b2 a) ∧ (∀ a, a = 0 ∨ a = 3 ∨ a = 6 → q2 a = q a) ∧ ar2 = ar + (nI bc - nI bc2) ∧ bc2 ≤ bc := by
  intro k
  induction k with
  | zero =>
    have h0 : ar = ar + (nI bc - nI bc) := by rw [Int32.sub_self, Int32.add_zero]
    exact ⟨q, b, b', bc, ar, fi, re, rfl, rfl, K, hr, fun _ _ => rfl, h0, Nat.le_refl _⟩
  | succ k ih =>
    obtain ⟨q1, b1, b1', bc1, ar1, fi1, re1, e1, e2, K1, r1, w1, a1, l1⟩ := ih
    obtain ⟨q2, b2, b2', bc2, ar2, fi2, re2, e3, e4, K2, r2, w2, a2, l2⟩ := night_M (t := t) (n := n + k) (ar := ar1) (fi := fi1) (re := re1) K1 r1
    have hb5 := K.b5
    refine ⟨q2, b2, b2', bc2, ar2, fi2, re2, ?_, ?_, K2, r2, fun a ha => (w2 a ha).trans (w1 a ha), ?_, Nat.le_trans l2 l1⟩
    · rw [nightsE_s, e1, e3]; rfl
    · rw [nightsM_s, e2, e4]; rfl
    · rw [a2, a1, Int32.add_assoc, f_sub3 ⟨bc, by omega⟩ ⟨bc1, by omega⟩ ⟨bc2, by omega⟩]
/-! a weir more keeps the order -/
theorem map_c {o o2 : Nat → Nat} {a : Nat} (h : ∀ i, i < a → o2 i = o i) : (List.range a).map o2 = (List.range a).map o := List.map_congr_left (fun i hi => h i (List.mem_range.mp hi))
theorem insE_hi (q : Fld) (p : Int32) (num : Nat) : ∀ (a : Nat) (o : Nat → Nat) (i : Nat), a < i → insE q p num a o i = o i
  | 0, o, i, h => by show va_up o 0 num i = o i; unfold va_up; rw [if_neg (by omega)]
  | a + 1, o, i, h => by
    rw [insE_s]
    split
    · rw [insE_hi q p num a _ i (by omega)]; unfold va_up; rw [if_neg (by omega)]
    · unfold va_up; rw [if_neg (by omega)]
theorem insE_L (q : Fld) (p : Int32) (num : Nat) : ∀ (a : Nat) (o : Nat → Nat), ∃ A B, (List.range a).map o = A ++ B ∧ (List.range (a + 1)).map (insE q p num a o) = A ++ num :: B ∧ (∀ x, x ∈ B → q 0 x < p) ∧ (A = [] ∨ ∃ A' x, A = A' ++ [x] ∧ ¬ q 0 x < p)
  | 0, o => ⟨[], [], rfl, by show [insE q p num 0 o 0] = [num]; show [va_up o 0 num 0] = [num]; unfold va_up; rw [if_pos rfl], fun x h => absurd h (List.not_mem_nil), Or.inl rfl⟩
  | a + 1, o => by
    rw [insE_s]
    by_cases h : q 0 (o a) < p
    · rw [if_pos h]
      obtain ⟨A, B, e1, e2, e3, e4⟩ := insE_L q p num a (va_up o (a + 1) (o a))
      have e0 : (List.range a).map (va_up o (a + 1) (o a)) = (List.range a).map o := map_c (fun i hi => by unfold va_up; rw [if_neg (by omega)])
      rw [e0] at e1
      refine ⟨A, B ++ [o a], ?_, ?_, ?_, e4⟩
      · rw [List.range_succ, List.map_append, e1, List.append_assoc]; rfl
      · rw [List.range_succ, List.map_append, e2]
        show (A ++ num :: B) ++ [insE q p num a (va_up o (a + 1) (o a)) (a + 1)] = _
        rw [insE_hi q p num a _ (a + 1) (by omega), show va_up o (a + 1) (o a) (a + 1) = o a from by unfold va_up; rw [if_pos rfl]]
        simp
      · intro x hx
        rcases List.mem_append.mp hx with h9 | h9
        · exact e3 x h9
        · rw [List.mem_singleton.mp h9]; exact h
    · rw [if_neg h]
      refine ⟨(List.range (a + 1)).map o, [], by rw [List.append_nil], ?_, fun x h => absurd h (List.not_mem_nil), Or.inr ⟨(List.range a).map o, o a, by rw [List.range_succ, List.map_append]; rfl, h⟩⟩
      rw [List.range_succ (n := a + 1), List.map_append, map_c (o := o) (fun i hi => by unfold va_up; rw [if_neg (by omega)])]
      show _ ++ [va_up o (a + 1) num (a + 1)] = _
      rw [show va_up o (a + 1) num (a + 1) = num from by unfold va_up; rw [if_pos rfl]]
theorem plL_m {pl : Nat → Int32} {c : Nat} {p : Int32} {x : Nat} (h : x ∈ plL pl c p) : x < c ∧ pl x = p := by
  have h1 := List.mem_filter.mp h
  exact ⟨List.mem_range.mp h1.1, of_decide_eq_true h1.2⟩
theorem orL_m {pl : Nat → Int32} {c : Nat} {x : Nat} : ∀ {m : Nat}, x ∈ orL pl c m → x < c ∧ ∃ k, k < m ∧ pl x = nI k
  | 0, h => absurd h (List.not_mem_nil)
  | m + 1, h => by
    rcases List.mem_append.mp h with h | h
    · exact ⟨(plL_m h).1, m, by omega, (plL_m h).2⟩
    · obtain ⟨h1, k, h2, h3⟩ := orL_m h
      exact ⟨h1, k, by omega, h3⟩
theorem plL_up {pl : Nat → Int32} {c : Nat} {p z : Int32} : plL (upd pl c p) (c + 1) z = plL pl c z ++ (if p = z then [c] else []) := by
  unfold plL
  rw [List.range_succ, List.filter_append]
  have e1 : (List.range c).filter (fun k => decide (upd pl c p k = z)) = (List.range c).filter (fun k => decide (pl k = z)) := List.filter_congr (fun i hi => by
    have := List.mem_range.mp hi
    unfold upd; rw [if_neg (by omega)])
  rw [e1]
  congr 1
  have e2 : upd pl c p c = p := by unfold upd; rw [if_pos rfl]
  rw [List.filter_cons, e2]
  by_cases h : p = z
  · rw [if_pos (decide_eq_true h), if_pos h]; rfl
  · rw [if_neg (by rw [decide_eq_false h]; decide), if_neg h]; rfl
theorem orL_lo {pl : Nat → Int32} {c pp : Nat} (hp : pp < 40) : ∀ m, m ≤ pp → orL (upd pl c (nI pp)) (c + 1) m = orL pl c m
  | 0, _ => rfl
  | m + 1, h => by
    show plL _ _ _ ++ orL _ _ m = _
    rw [plL_up, if_neg (fun h9 => by have := (nI_eq (by omega) (by omega)).mp h9; omega), List.append_nil, orL_lo hp m (by omega)]
    rfl
theorem orL_hi {pl : Nat → Int32} {c pp : Nat} (hp : pp < 40) : ∀ d, pp + 1 + d ≤ 40 → ∃ X, orL pl c (pp + 1 + d) = X ++ orL pl c pp ∧ orL (upd pl c (nI pp)) (c + 1) (pp + 1 + d) = X ++ c :: orL pl c pp ∧ ∀ x, x ∈ X → ¬ pl x < nI pp
  | 0, _ => by
    refine ⟨plL pl c (nI pp), rfl, ?_, fun x hx => by rw [(plL_m hx).2]; exact Int32.lt_irrefl⟩
    show plL _ _ _ ++ orL _ _ pp = _
    rw [plL_up, if_pos rfl, orL_lo hp pp (Nat.le_refl pp), List.append_assoc]; rfl
  | d + 1, h => by
    obtain ⟨X, e1, e2, e3⟩ := orL_hi (pl := pl) (c := c) hp d (by omega)
    refine ⟨plL pl c (nI (pp + 1 + d)) ++ X, ?_, ?_, ?_⟩
    · show plL _ _ _ ++ orL _ _ (pp + 1 + d) = _
      rw [e1, List.append_assoc]; rfl
    · show plL _ _ (nI (pp + 1 + d)) ++ orL _ _ (pp + 1 + d) = _
      rw [e2, plL_up, if_neg (fun h9 => by have := (nI_eq (by omega) (by omega)).mp h9; omega), List.append_nil, List.append_assoc]
    · intro x hx
      rcases List.mem_append.mp hx with h9 | h9
      · rw [(plL_m h9).2]; exact nI_nlt (by omega) (by omega)
      · exact e3 x h9
/-- the order after a new weir -/
theorem okO_ins {o : Nat → Nat} {q : Fld} {c pp : Nat} (hp : pp < 40) (hO : okO o (q 0) c) : okO (insE q (nI pp) c c o) (upd (q 0) c (nI pp)) (c + 1) := by
  obtain ⟨A, B, e1, e2, e3, e4⟩ := insE_L q (nI pp) c c o
  obtain ⟨X, x1, x2, x3⟩ := orL_hi (pl := q 0) (c := c) hp (40 - (pp + 1)) (by omega)
  rw [show pp + 1 + (40 - (pp + 1)) = 40 by omega] at x1 x2
  have hY : ∀ x, x ∈ orL (q 0) c pp → q 0 x < nI pp := fun x hx => by
    obtain ⟨-, k, h1, h2⟩ := orL_m hx
    rw [h2]; exact nI_lt h1 (by omega)
  have hAB : A ++ B = X ++ orL (q 0) c pp := by rw [← e1, ← x1]; exact hO
  have key : A = X ∧ B = orL (q 0) c pp := by
    rcases List.append_eq_append_iff.mp hAB with ⟨t, h1, h2⟩ | ⟨t, h1, h2⟩
    · cases t with
      | nil => exact ⟨by rw [h1, List.append_nil], by rw [h2]; rfl⟩
      | cons x t => exact absurd (e3 x (by rw [h2]; simp)) (x3 x (by rw [h1]; simp))
    · rcases e4 with h4 | ⟨A', x, h4, h5⟩
      · subst h4
        have ht : X = [] ∧ t = [] := List.append_eq_nil_iff.mp h1.symm
        rw [ht.1, h2, ht.2]; exact ⟨rfl, rfl⟩
      · rcases List.eq_nil_or_concat t with ht | ⟨t', z, ht⟩
        · rw [ht] at h1 h2; exact ⟨by rw [h1, List.append_nil], by rw [h2]; rfl⟩
        · have hz : x = z := by
            have h6 : A' ++ [x] = (X ++ t') ++ [z] := by rw [← h4, h1, ht]; simp
            exact List.singleton_inj.mp (List.append_inj' h6 rfl).2
          exact absurd (hY x (by rw [h2, ht, hz]; simp)) h5
  unfold okO
  rw [e2, x2, key.1, key.2]
