/-! the order in which weirs catch -/
def plL (pl : Nat → Int32) (c : Nat) (p : Int32) : List Nat := (List.range c).filter (fun k => decide (pl k = p))
/-- the weirs at places below m, from the highest down -/
def orL (pl : Nat → Int32) (c : Nat) : Nat → List Nat
  | 0 => []
  | m + 1 => plL pl c (nI m) ++ orL pl c m
def okO (o : Nat → Nat) (pl : Nat → Int32) (c : Nat) : Prop := (List.range c).map o = orL pl c 40
/-- one weir's catch -/
def catS (k : Nat) (a : Fld × Int32) : Fld × Int32 := if fishB a.1 k = true then (catchW a.1 k a.2, a.2 - caughtI a.1 k a.2) else a
theorem itN_foldl {σ : Type} {f : Nat → σ → σ} (c : Nat) (a : σ) : itN f c a = (List.range c).foldl (fun s k => f k s) a := by
  induction c with
  | zero => rfl
  | succ c ih => rw [itN_s, ih, List.range_succ, List.foldl_append]; rfl
theorem catchP_L (o : Nat → Nat) (q : Fld) (c : Nat) (x : Int32) : catchP o q c x = ((List.range c).map o).foldl (fun s k => catS k s) (q, x) := by
  rw [List.foldl_map]
  exact itN_foldl c (q, x)
def okp (q : Fld) (c : Nat) : Prop := ∀ i, i < c → q 6 i = 0 ∨ q 6 i = 1
theorem catS_r {k : Nat} {a : Fld × Int32} {j : Nat} (h : j ≠ 5) : (catS k a).1 j = a.1 j := by
  unfold catS
  split
  · exact up2_r h
  · rfl
theorem dnS_cat {p ask : Int32} {k : Nat} {a : Dst} (h6 : a.1 6 k = 0 ∨ a.1 6 k = 1) (hp : a.1 0 k = p) : ((dnS p ask k a).1, (dnS p ask k a).2.1) = catS k (a.1, a.2.1) := by
  unfold dnS catS
  rw [if_pos hp]
  unfold fishB
  by_cases hh : heldB a.1 k = true
  · rw [if_pos hh]
    rw [show decide (a.1 7 k < 3) = true from hh, Bool.true_and]
    rcases h6 with h | h
    · rw [if_neg (by rw [h]; decide), if_pos (decide_eq_true h)]
    · rw [if_pos h, if_neg (by rw [h]; decide)]
  · rw [if_neg hh, show decide (a.1 7 k < 3) = false from eq_false_of_ne_true hh, Bool.false_and, if_neg (by decide)]
theorem dnS_no {p ask : Int32} {k : Nat} {a : Dst} (hp : ¬ a.1 0 k = p) : dnS p ask k a = a := by unfold dnS; rw [if_neg hp]
theorem dnS_r {p ask : Int32} {k : Nat} {a : Dst} {j : Nat} (h : j ≠ 5) : (dnS p ask k a).1 j = a.1 j := by
  unfold dnS
  split
  · split
    · split
      · rfl
      · exact up2_r h
    · rfl
  · rfl
theorem dnI_r {p ask : Int32} {a : Dst} {j : Nat} (h : j ≠ 5) : ∀ c, (dnI p ask c a).1 j = a.1 j
  | 0 => rfl
  | c + 1 => (dnS_r h).trans (dnI_r h c)
theorem dnI_L {p ask : Int32} {a : Dst} : ∀ {c : Nat}, okp a.1 c → ((dnI p ask c a).1, (dnI p ask c a).2.1) = (plL (a.1 0) c p).foldl (fun s k => catS k s) (a.1, a.2.1)
  | 0, _ => rfl
  | c + 1, h6 => by
    have ih := dnI_L (p := p) (ask := ask) (a := a) (c := c) (fun i hi => h6 i (by omega))
    have e0 : (dnI p ask c a).1 0 = a.1 0 := dnI_r (by decide) c
    have e6 : (dnI p ask c a).1 6 = a.1 6 := dnI_r (by decide) c
    unfold plL at ih ⊢
    rw [List.range_succ, List.filter_append, List.foldl_append, ← ih, dnI_s]
    by_cases hp : a.1 0 c = p
    · rw [dnS_cat (by rw [e6]; exact h6 c (by omega)) (by rw [e0]; exact hp)]
      rw [show [c].filter (fun k => decide (a.1 0 k = p)) = [c] from by rw [List.filter_cons, if_pos (decide_eq_true hp)]; rfl]
      rfl
    · rw [dnS_no (by rw [e0]; exact hp)]
      rw [show [c].filter (fun k => decide (a.1 0 k = p)) = [] from by rw [List.filter_cons, if_neg (by rw [decide_eq_false hp]; decide)]; rfl]
      rfl
theorem dnO_L {ask : Int32} {c : Nat} : ∀ {m : Nat} {a : Dst}, okp a.1 c → ((dnO ask c m a).1, (dnO ask c m a).2.1) = (orL (a.1 0) c m).foldl (fun s k => catS k s) (a.1, a.2.1)
  | 0, _, _ => rfl
  | m + 1, a, h6 => by
    have h := dnI_L (p := nI m) (ask := ask) h6
    have e0 : (dnI (nI m) ask c a).1 0 = a.1 0 := dnI_r (by decide) c
    have e6 : (dnI (nI m) ask c a).1 6 = a.1 6 := dnI_r (by decide) c
    have ih := dnO_L (ask := ask) (c := c) (m := m) (a := dnI (nI m) ask c a) (fun i hi => by rw [e6]; exact h6 i hi)
    rw [dnO_s, ih, e0, h]
    exact (List.foldl_append (l := plL (a.1 0) c (nI m)) (l' := orL (a.1 0) c m)).symm
/-- the class's order and the model's places catch alike -/
theorem catch_M {o : Nat → Nat} {q : Fld} {c : Nat} {x ask : Int32} (hO : okO o (q 0) c) (h6 : okp q c) : (dnO ask c 40 (q, x, 0)).1 = catchE o q c x := by
  have h1 := dnO_L (ask := ask) (m := 40) (a := ((q, x, 0) : Dst)) h6
  have h2 := catchP_L o q c x
  rw [hO] at h2
  exact congrArg Prod.fst (h1.trans h2.symm)
