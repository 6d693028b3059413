/-! the next weir in a barge's way -/
theorem nfI_at {q : Fld} {z bw : Int32} {c i : Nat} (hi : i < c) (h1 : q 0 i = z) (h2 : wayB q i bw = true) : ∀ d k, k + d = i → (∀ x, k ≤ x → x < i → q 0 x = z → wayB q x bw = false) → nfI q z bw c (c - k) = nI i
  | 0, k, e, _ => by
    have : k = i := by omega
    subst this; exact nfI_hit hi h1 h2
  | d + 1, k, e, h => by
    have ih := nfI_at hi h1 h2 d (k + 1) (by omega) (fun x h3 h4 => h x (by omega) h4)
    by_cases h3 : q 0 k = z
    · rw [nfI_no (by omega) h3 (h k (Nat.le_refl k) (by omega) h3)]; exact ih
    · rw [nfI_far (by omega) h3]; exact ih
theorem nfI_none {q : Fld} {z bw : Int32} {c : Nat} (h : ∀ x, x < c → q 0 x = z → wayB q x bw = false) : ∀ d k, k + d = c → nfI q z bw c (c - k) = -1
  | 0, k, e => by rw [show c - k = 0 by omega]; rfl
  | d + 1, k, e => by
    have ih := nfI_none h d (k + 1) (by omega)
    by_cases h3 : q 0 k = z
    · rw [nfI_no (by omega) h3 (h k (by omega) h3)]; exact ih
    · rw [nfI_far (by omega) h3]; exact ih
theorem nfO_none {q : Fld} {bw : Int32} {c : Nat} : ∀ m, m ≤ 40 → (∀ x P, x < c → 40 - m ≤ P → P < 40 → q 0 x = nI P → wayB q x bw = false) → nfO q bw c m = -1
  | 0, _, _ => rfl
  | m + 1, hm, h => by
    rw [nfO_go (by rw [← Nat.sub_zero c]; exact nfI_none (fun x hx e => h x (40 - (m + 1)) hx (Nat.le_refl _) (by omega) e) c 0 (by omega))]
    exact nfO_none m (by omega) (fun x P hx h1 h2 => h x P hx (by omega) h2)
theorem nfO_at {q : Fld} {bw : Int32} {c i F : Nat} (hc : c ≤ 6) (hi : i < c) (hF : F < 40) (h1 : q 0 i = nI F) (h2 : wayB q i bw = true) (hfirst : ∀ x, x < i → q 0 x = nI F → wayB q x bw = false) : ∀ m, m ≤ 40 → 40 - m ≤ F → (∀ x P, x < c → 40 - m ≤ P → P < F → q 0 x = nI P → wayB q x bw = false) → nfO q bw c m = nI i
  | 0, _, hf, _ => by omega
  | m + 1, hm, hf, h => by
    rcases Nat.lt_or_eq_of_le hf with h9 | h9
    · rw [nfO_go (by rw [← Nat.sub_zero c]; exact nfI_none (fun x hx e => h x (40 - (m + 1)) hx (Nat.le_refl _) h9 e) c 0 (by omega))]
      exact nfO_at hc hi hF h1 h2 hfirst m (by omega) (by omega) (fun x P hx h3 h4 => h x P hx (by omega) h4)
    · refine nfO_hit (by omega) ?_
      rw [h9]
      rw [show nfI q (nI F) bw c c = nfI q (nI F) bw c (c - 0) from by rw [Nat.sub_zero]]
      exact nfI_at hi h1 h2 i 0 (by omega) (fun x _ h4 => hfirst x h4)
theorem told_M {q : Fld} {bp bw : Int32} {c p : Nat} (hc : c ≤ 6) (hp : p ≤ 40) (hx : bp + 1 = nI p) (hpl : okPl q c) : nfO q bw c (40 - p) = (nextE q c bp bw).1 := by
  rcases nextE_sp (q := q) (bw := bw) hx hp hpl with ⟨e, hno⟩ | ⟨i, P, hi, hP, hpP, eP, hw, e, hmin⟩
  · rw [e]; exact nfO_none (40 - p) (by omega) (fun x P hx h1 h2 h3 => hno x P hx h3 h2 (by omega))
  · rw [e]
    refine nfO_at hc hi hP eP hw (fun x hx h3 => ?_) (40 - p) (by omega) (by omega) (fun x P2 hx h3 h4 h5 => ?_)
    · by_cases h9 : wayB q x bw = true
      · rcases hmin x P (by omega) h3 hP hpP h9 with h8 | ⟨_, h8⟩ <;> omega
      · exact eq_false_of_ne_true h9
    · by_cases h9 : wayB q x bw = true
      · rcases hmin x P2 hx h5 (by omega) (by omega) h9 with h8 | ⟨h8, _⟩ <;> omega
      · exact eq_false_of_ne_true h9
/-! single facts -/
section FACTS
variable (t : Nat → Int32) (q : Fld) (c bc n : Nat) (ar fi re : Int32)
theorem cntF_0 : cntF t q c bc n ar fi re 0 = nI n := by simp [cntF, upd]
theorem cntF_1 : cntF t q c bc n ar fi re 1 = moonI n := by simp [cntF, upd]
theorem cntF_2 : cntF t q c bc n ar fi re 2 = runI t n := by simp [cntF, upd, runM_I]
theorem cntF_3 : cntF t q c bc n ar fi re 3 = nI c := by simp [cntF, upd]
theorem cntF_4 : cntF t q c bc n ar fi re 4 = heldN q c := by simp [cntF, upd]
theorem cntF_5 : cntF t q c bc n ar fi re 5 = nI bc := by simp [cntF, upd]
theorem cntF_6 : cntF t q c bc n ar fi re 6 = ar := by simp [cntF, upd]
theorem cntF_7 : cntF t q c bc n ar fi re 7 = fi := by simp [cntF, upd]
theorem cntF_8 : cntF t q c bc n ar fi re 8 = re := by simp [cntF, upd]
theorem cntF_9 : cntF t q c bc n ar fi re 9 = eelsN q c := by simp [cntF, upd]
end FACTS
theorem wtF_fact {q : Fld} {k j : Nat} (hj : j < 8) (h6 : q 6 k = 0 ∨ q 6 k = 1) : wtF q k j = factW q k j := by
  rcases (show j = 0 ∨ j = 1 ∨ j = 2 ∨ j = 3 ∨ j = 4 ∨ j = 5 ∨ j = 6 ∨ j = 7 by omega) with rfl | rfl | rfl | rfl | rfl | rfl | rfl | rfl
  all_goals first | (simp [wtF, upd, factW]; done) | skip
  rcases h6 with h | h
  · simp [wtF, upd, factW, h]
  · simp [wtF, upd, factW, h]
theorem gate_M {q : Fld} {k : Nat} (h6 : q 6 k = 0 ∨ q 6 k = 1) : 1 - q 6 k = gateZ q k ∧ (if 1 - q 6 k = 1 then (1 : Int32) else 0) = gateZ q k := by
  unfold gateZ
  rcases h6 with h | h
  · rw [h]; exact ⟨by decide, by decide⟩
  · rw [h]; exact ⟨by decide, by decide⟩
theorem mend_M (x : Int32) : (x + 5) - 1 = x + 4 := by
  rw [Int32.sub_eq_add_neg, Int32.add_assoc]
  rfl
theorem weir_M {q : Fld} {c : Nat} (p s r : Int32) (h5 : q 5 c = 0) (h6 : q 6 c = 0) (h7 : q 7 c = 0) : up2 (up2 (up2 (up2 (up2 q 0 c p) 3 c r) 1 c s) 2 c 100) 4 c 20 = newW q c p s r := by
  funext a i
  by_cases hi : i = c
  · subst hi
    by_cases h : a < 8
    · rcases (show a = 0 ∨ a = 1 ∨ a = 2 ∨ a = 3 ∨ a = 4 ∨ a = 5 ∨ a = 6 ∨ a = 7 by omega) with rfl | rfl | rfl | rfl | rfl | rfl | rfl | rfl
      all_goals simp [newW, up2, upd, h5, h6, h7]
    · unfold newW
      rw [up2_r (show a ≠ 4 by omega), up2_r (show a ≠ 2 by omega), up2_r (show a ≠ 1 by omega), up2_r (show a ≠ 3 by omega), up2_r (show a ≠ 0 by omega), up2_r (show a ≠ 7 by omega), up2_r (show a ≠ 6 by omega), up2_r (show a ≠ 5 by omega), up2_r (show a ≠ 4 by omega), up2_r (show a ≠ 3 by omega), up2_r (show a ≠ 2 by omega), up2_r (show a ≠ 1 by omega), up2_r (show a ≠ 0 by omega)]
  · rw [newW_k _ _ _ _ _ _ _ hi, up2_k _ _ _ _ _ _ hi, up2_k _ _ _ _ _ _ hi, up2_k _ _ _ _ _ _ hi, up2_k _ _ _ _ _ _ hi, up2_k _ _ _ _ _ _ hi]
theorem barge_M {b b' : Fld} {bc : Nat} {tk w : Int32} (hr : ∀ a, 1 ≤ a → a ≤ 3 → b' a = b a) : ∀ a, 1 ≤ a → a ≤ 3 → (up2 (up2 (up2 b' 1 bc w) 2 bc (-1)) 3 bc 0) a = newB b bc tk w a := by
  intro a h1 h3
  rcases (show a = 1 ∨ a = 2 ∨ a = 3 by omega) with rfl | rfl | rfl
  · show upd (b' 1) bc w = upd (b 1) bc w; rw [hr 1 (by omega) (by omega)]
  · show upd (b' 2) bc (-1) = upd (b 2) bc (-1); rw [hr 2 (by omega) (by omega)]
  · show upd (b' 3) bc 0 = upd (b 3) bc 0; rw [hr 3 (by omega) (by omega)]
/-! what the coming night brings one weir -/
theorem dnS_told {p : Int32} {k k0 : Nat} {a : Dst} {z : Int32} (hk : k < 6) (hk0 : k0 < 6) (h : a.1 5 k0 = z + a.2.2) : (dnS p (nI k0) k a).1 5 k0 = z + (dnS p (nI k0) k a).2.2 := by
  unfold dnS
  split
  · split
    · split
      · exact h
      · by_cases hkk : k = k0
        · subst hkk
          show up2 a.1 5 k _ 5 k = _
          rw [up2_s, if_pos rfl, h, Int32.add_assoc]
        · show up2 a.1 5 k _ 5 k0 = _
          rw [up2_k _ _ _ _ _ _ (Ne.symm hkk), if_neg (fun h9 => hkk ((nI_eq (by omega) (by omega)).mp h9)), Int32.add_zero]
          exact h
    · exact h
  · exact h
theorem dnI_told {p : Int32} {k0 : Nat} {a : Dst} {z : Int32} (hk0 : k0 < 6) (h : a.1 5 k0 = z + a.2.2) : ∀ c, c ≤ 6 → (dnI p (nI k0) c a).1 5 k0 = z + (dnI p (nI k0) c a).2.2
  | 0, _ => h
  | c + 1, hc => dnS_told (by omega) hk0 (dnI_told hk0 h c (by omega))
theorem dnO_told {k0 c : Nat} {z : Int32} (hc : c ≤ 6) (hk0 : k0 < 6) : ∀ (m : Nat) (a : Dst), a.1 5 k0 = z + a.2.2 → (dnO (nI k0) c m a).1 5 k0 = z + (dnO (nI k0) c m a).2.2
  | 0, _, h => h
  | m + 1, a, h => dnO_told hc hk0 m _ (dnI_told hk0 h c hc)
theorem catches_M {o : Nat → Nat} {t : Nat → Int32} {q : Fld} {c n k : Nat} (hc : c ≤ 6) (hk : k < c) (hO : okO o (q 0) c) (h6 : okp q c) : (dnO (nI k) c 40 (q, runM t n, 0)).2.2 = catchE o q c (runI t n) 5 k - q 5 k := by
  have h := dnO_told (z := q 5 k) hc (show k < 6 by omega) 40 ((q, runM t n, 0) : Dst) (by show q 5 k = q 5 k + 0; rw [Int32.add_zero])
  have e : (dnO (nI k) c 40 (q, runM t n, 0)).1 = catchE o q c (runI t n) := by rw [runM_I]; exact catch_M hO h6
  rw [e] at h
  rw [h, Int32.add_comm, Int32.add_sub_cancel]
