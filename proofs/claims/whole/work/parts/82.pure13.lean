/-! the trial holds a copy of what counts: alike below c -/
def agW (c : Nat) (q q2 : Fld) : Prop := ∀ i, i < c → ∀ j, q2 j i = q j i
theorem up2_ag {c j k : Nat} {q q2 : Fld} {x : Int32} (h : agW c q q2) : agW c (up2 q j k x) (up2 q2 j k x) := by
  intro i hi a
  by_cases hik : i = k
  · subst hik
    by_cases ha : a = j
    · subst ha; rw [up2_s, up2_s]
    · rw [up2_j _ _ _ _ _ _ ha, up2_j _ _ _ _ _ _ ha]; exact h i hi a
  · rw [up2_k _ _ _ _ _ _ hik, up2_k _ _ _ _ _ _ hik]; exact h i hi a
theorem fish_ag {c k : Nat} {q q2 : Fld} (h : agW c q q2) (hk : k < c) : fishB q2 k = fishB q k := by unfold fishB; rw [h k hk 7, h k hk 6]
theorem way_ag {c k : Nat} {q q2 : Fld} {w : Int32} (h : agW c q q2) (hk : k < c) : wayB q2 k w = wayB q k w := way_c (fun j => h k hk j) w
theorem held_ag {c k : Nat} {q q2 : Fld} (h : agW c q q2) (hk : k < c) : heldB q2 k = heldB q k := held_c (h k hk 7)
theorem caught_ag {c k : Nat} {q q2 : Fld} {x : Int32} (h : agW c q q2) (hk : k < c) : caughtI q2 k x = caughtI q k x := by unfold caughtI; rw [h k hk 1, h k hk 2, h k hk 5]
theorem catchP_ag {o o2 : Nat → Nat} {q q2 : Fld} {c : Nat} {x : Int32} (ho : ∀ i, i < c → o i < c) (hoo : ∀ i, i < c → o2 i = o i) (h : agW c q q2) : ∀ k, k ≤ c → agW c (catchP o q k x).1 (catchP o2 q2 k x).1 ∧ (catchP o2 q2 k x).2 = (catchP o q k x).2
  | 0, _ => ⟨h, rfl⟩
  | k + 1, hk => by
    obtain ⟨i1, i2⟩ := catchP_ag (x := x) ho hoo h k (by omega)
    have hok := ho k (by omega)
    rw [catchP_s, catchP_s]; unfold catchS
    rw [hoo k (by omega), fish_ag i1 hok, i2]
    split
    · unfold catchW
      rw [caught_ag i1 hok, i1 (o k) hok 5]
      exact ⟨up2_ag i1, rfl⟩
    · exact ⟨i1, i2⟩
theorem loseW_ag {c k : Nat} {q q2 : Fld} {m : Int32} (h : agW c q q2) (hk : k < c) : agW c (loseW q k m) (loseW q2 k m) := by
  unfold loseW; rw [h k hk 2]; exact up2_ag h
theorem breakW_ag {c k : Nat} {q q2 : Fld} {w : Int32} (h : agW c q q2) (hk : k < c) : agW c (breakW q k w) (breakW q2 k w) := by
  unfold breakW fineI
  rw [h k hk 4]
  exact up2_ag (loseW_ag (up2_ag h) hk)
theorem brkE_ag {q q2 : Fld} {c : Nat} {bp bw fi br : Int32} (h : agW c q q2) : ∀ k, k ≤ c → agW c (brkE q k bp bw fi br).1 (brkE q2 k bp bw fi br).1 ∧ (brkE q2 k bp bw fi br).2 = (brkE q k bp bw fi br).2
  | 0, _ => ⟨h, rfl⟩
  | k + 1, hk => by
    obtain ⟨i1, i2⟩ := brkE_ag (bp := bp) (bw := bw) (fi := fi) (br := br) h k (by omega)
    have hkc : k < c := by omega
    rw [brkE_s, brkE_s]; unfold brkS
    rw [i1 k hkc 0, way_ag i1 hkc]
    split
    · split
      · unfold fineI
        rw [i2, i1 k hkc 4]
        exact ⟨breakW_ag i1 hkc, rfl⟩
      · exact ⟨i1, i2⟩
    · exact ⟨i1, i2⟩
theorem nextE_ag {q q2 : Fld} {c : Nat} {bp bw : Int32} (h : agW c q q2) : ∀ k, k ≤ c → nextE q2 k bp bw = nextE q k bp bw := by
  intro k
  induction k with
  | zero =>
    intro _
    have h1 : nextE q2 0 bp bw = (-1, 40) := rfl
    have h2 : nextE q 0 bp bw = (-1, 40) := rfl
    rw [h1, h2]
  | succ k ih =>
    intro hk
    have e1 : q2 0 k = q 0 k := h k (by omega) 0
    have e2 : wayB q2 k bw = wayB q k bw := way_ag h (by omega)
    rw [nextE_s, nextE_s, ih (by omega)]
    unfold nextS
    rw [e1, e2]
