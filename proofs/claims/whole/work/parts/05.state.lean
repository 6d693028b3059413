/-! a state in numbers. q j k: what weir k holds (0 place, 1 stakes, 2 wattle, 3 rent, 4 coins, 5 eels, 6 open, 7 owed); b j k: barge k (0 its ticket, 1 its width, 2 its place, 3 how many it broke) -/
abbrev Fld : Type := Nat → Nat → Int32
def up2 (q : Fld) (j k : Nat) (x : Int32) : Fld := fun a => if a = j then upd (q j) k x else q a
def qF (q : Fld) (k : Nat) : List Value := [.int (q 0 k), .int (q 1 k), .int (q 2 k), .int (q 3 k), .int (q 4 k), .int (q 5 k), .int (q 6 k), .int (q 7 k)]
def bF (b : Fld) (k : Nat) : List Value := [.int (b 0 k), .int (b 1 k), .int (b 2 k), .int (b 3 k)]
theorem up2_s (q : Fld) (j k : Nat) (x : Int32) : up2 q j k x j k = x := by simp [up2, upd]
theorem up2_j (q : Fld) (j k a i : Nat) (x : Int32) (h : a ≠ j) : up2 q j k x a i = q a i := by simp [up2, h]
theorem up2_k (q : Fld) (j k a i : Nat) (x : Int32) (h : i ≠ k) : up2 q j k x a i = q a i := by
  by_cases ha : a = j
  · subst ha; simp [up2, upd, h]
  · simp [up2, ha]
theorem up2_id (q : Fld) (j k : Nat) : up2 q j k (q j k) = q := by
  funext a i
  by_cases hi : i = k
  · subst hi
    by_cases ha : a = j
    · subst ha; exact up2_s ..
    · exact up2_j _ _ _ _ _ _ ha
  · exact up2_k _ _ _ _ _ _ hi
theorem up2_2 (q : Fld) (j k : Nat) (x z : Int32) : up2 (up2 q j k x) j k z = up2 q j k z := by
  funext a i
  by_cases hi : i = k
  · subst hi
    by_cases ha : a = j
    · subst ha; rw [up2_s, up2_s]
    · rw [up2_j _ _ _ _ _ _ ha, up2_j _ _ _ _ _ _ ha, up2_j _ _ _ _ _ _ ha]
  · rw [up2_k _ _ _ _ _ _ hi, up2_k _ _ _ _ _ _ hi, up2_k _ _ _ _ _ _ hi]
theorem up2_0 (f : Nat → Int32) (k : Nat) : upd f k (f k) = f := by
  funext i
  by_cases hi : i = k
  · subst hi; simp [upd]
  · simp [upd, hi]
theorem qF_0 (q : Fld) (k : Nat) (x : Int32) : (qF q k).set 0 (.int x) = qF (up2 q 0 k x) k := by simp [qF, up2, upd]
theorem qF_1 (q : Fld) (k : Nat) (x : Int32) : (qF q k).set 1 (.int x) = qF (up2 q 1 k x) k := by simp [qF, up2, upd]
theorem qF_2 (q : Fld) (k : Nat) (x : Int32) : (qF q k).set 2 (.int x) = qF (up2 q 2 k x) k := by simp [qF, up2, upd]
theorem qF_3 (q : Fld) (k : Nat) (x : Int32) : (qF q k).set 3 (.int x) = qF (up2 q 3 k x) k := by simp [qF, up2, upd]
theorem qF_4 (q : Fld) (k : Nat) (x : Int32) : (qF q k).set 4 (.int x) = qF (up2 q 4 k x) k := by simp [qF, up2, upd]
theorem qF_5 (q : Fld) (k : Nat) (x : Int32) : (qF q k).set 5 (.int x) = qF (up2 q 5 k x) k := by simp [qF, up2, upd]
theorem qF_6 (q : Fld) (k : Nat) (x : Int32) : (qF q k).set 6 (.int x) = qF (up2 q 6 k x) k := by simp [qF, up2, upd]
theorem qF_7 (q : Fld) (k : Nat) (x : Int32) : (qF q k).set 7 (.int x) = qF (up2 q 7 k x) k := by simp [qF, up2, upd]
theorem bF_0 (q : Fld) (k : Nat) (x : Int32) : (bF q k).set 0 (.int x) = bF (up2 q 0 k x) k := by simp [bF, up2, upd]
theorem bF_1 (q : Fld) (k : Nat) (x : Int32) : (bF q k).set 1 (.int x) = bF (up2 q 1 k x) k := by simp [bF, up2, upd]
theorem bF_2 (q : Fld) (k : Nat) (x : Int32) : (bF q k).set 2 (.int x) = bF (up2 q 2 k x) k := by simp [bF, up2, upd]
theorem bF_3 (q : Fld) (k : Nat) (x : Int32) : (bF q k).set 3 (.int x) = bF (up2 q 3 k x) k := by simp [bF, up2, upd]
/-- the world of an Estuary: 16 cells, at E 0 .. E 15 -/
def eW (E : Nat → Nat) (y : Nat → ClassId) (t : Nat → Int32) (o : Nat → Nat) (q b : Fld) (c bc n : Nat) (ar fi re : Int32) : va_W :=
  [(E 0, .inr (1, [.ref (E 1), .ref (E 2), .ref (E 3), .ref (E 4), .int (nI c), .int (nI bc), .int (nI n), .int ar, .int fi, .int re])),
   (E 1, .inl (y 0, 7, .inl t)),
   (E 2, .inl (y 1, 6, .inr (.inr (.inr (.inr (fun i => some (E (5 + i)))))))),
   (E 3, .inl (y 0, 6, .inl (fun i => nI (o i)))),
   (E 4, .inl (y 2, 5, .inr (.inr (.inr (.inr (fun i => some (E (11 + i)))))))),
   (E 5, .inr (2, qF q 0)), (E 6, .inr (2, qF q 1)), (E 7, .inr (2, qF q 2)), (E 8, .inr (2, qF q 3)), (E 9, .inr (2, qF q 4)), (E 10, .inr (2, qF q 5)),
   (E 11, .inr (0, bF b 0)), (E 12, .inr (0, bF b 1)), (E 13, .inr (0, bF b 2)), (E 14, .inr (0, bF b 3)), (E 15, .inr (0, bF b 4))]
theorem eW_w {E : Nat → Nat} {y : Nat → ClassId} {t : Nat → Int32} {o : Nat → Nat} {q b : Fld} {c bc n : Nat} {ar fi re : Int32} {k : Nat} (hk : k < 6) : (eW E y t o q b c bc n ar fi re)[5 + k]? = some (E (5 + k), .inr (2, qF q k)) := by
  rcases (show k = 0 ∨ k = 1 ∨ k = 2 ∨ k = 3 ∨ k = 4 ∨ k = 5 by omega) with rfl | rfl | rfl | rfl | rfl | rfl
  · rfl
  · rfl
  · rfl
  · rfl
  · rfl
  · rfl
theorem eW_b {E : Nat → Nat} {y : Nat → ClassId} {t : Nat → Int32} {o : Nat → Nat} {q b : Fld} {c bc n : Nat} {ar fi re : Int32} {k : Nat} (hk : k < 5) : (eW E y t o q b c bc n ar fi re)[11 + k]? = some (E (11 + k), .inr (0, bF b k)) := by
  rcases (show k = 0 ∨ k = 1 ∨ k = 2 ∨ k = 3 ∨ k = 4 by omega) with rfl | rfl | rfl | rfl | rfl
  · rfl
  · rfl
  · rfl
  · rfl
  · rfl
theorem eW_setw {E : Nat → Nat} {y : Nat → ClassId} {t : Nat → Int32} {o : Nat → Nat} {q b : Fld} {c bc n : Nat} {ar fi re : Int32} {q' : Fld} {k : Nat} (hk : k < 6) (h : ∀ j i, i ≠ k → q' j i = q j i) : (eW E y t o q b c bc n ar fi re).set (5 + k) (E (5 + k), .inr (2, qF q' k)) = eW E y t o q' b c bc n ar fi re := by
  have e : ∀ i, i ≠ k → qF q' i = qF q i := fun i hi => by unfold qF; rw [h 0 i hi, h 1 i hi, h 2 i hi, h 3 i hi, h 4 i hi, h 5 i hi, h 6 i hi, h 7 i hi]
  rcases (show k = 0 ∨ k = 1 ∨ k = 2 ∨ k = 3 ∨ k = 4 ∨ k = 5 by omega) with rfl | rfl | rfl | rfl | rfl | rfl
  · unfold eW; rw [e 1 (by decide), e 2 (by decide), e 3 (by decide), e 4 (by decide), e 5 (by decide)]; rfl
  · unfold eW; rw [e 0 (by decide), e 2 (by decide), e 3 (by decide), e 4 (by decide), e 5 (by decide)]; rfl
  · unfold eW; rw [e 0 (by decide), e 1 (by decide), e 3 (by decide), e 4 (by decide), e 5 (by decide)]; rfl
  · unfold eW; rw [e 0 (by decide), e 1 (by decide), e 2 (by decide), e 4 (by decide), e 5 (by decide)]; rfl
  · unfold eW; rw [e 0 (by decide), e 1 (by decide), e 2 (by decide), e 3 (by decide), e 5 (by decide)]; rfl
  · unfold eW; rw [e 0 (by decide), e 1 (by decide), e 2 (by decide), e 3 (by decide), e 4 (by decide)]; rfl
theorem eW_setb {E : Nat → Nat} {y : Nat → ClassId} {t : Nat → Int32} {o : Nat → Nat} {q b : Fld} {c bc n : Nat} {ar fi re : Int32} {b' : Fld} {k : Nat} (hk : k < 5) (h : ∀ j i, i ≠ k → b' j i = b j i) : (eW E y t o q b c bc n ar fi re).set (11 + k) (E (11 + k), .inr (0, bF b' k)) = eW E y t o q b' c bc n ar fi re := by
  have e : ∀ i, i ≠ k → bF b' i = bF b i := fun i hi => by unfold bF; rw [h 0 i hi, h 1 i hi, h 2 i hi, h 3 i hi]
  rcases (show k = 0 ∨ k = 1 ∨ k = 2 ∨ k = 3 ∨ k = 4 by omega) with rfl | rfl | rfl | rfl | rfl
  · unfold eW; rw [e 1 (by decide), e 2 (by decide), e 3 (by decide), e 4 (by decide)]; rfl
  · unfold eW; rw [e 0 (by decide), e 2 (by decide), e 3 (by decide), e 4 (by decide)]; rfl
  · unfold eW; rw [e 0 (by decide), e 1 (by decide), e 3 (by decide), e 4 (by decide)]; rfl
  · unfold eW; rw [e 0 (by decide), e 1 (by decide), e 2 (by decide), e 4 (by decide)]; rfl
  · unfold eW; rw [e 0 (by decide), e 1 (by decide), e 2 (by decide), e 3 (by decide)]; rfl
/-! the class's methods as functions -/
def minI (x z : Int32) : Int32 := if z < x then z else x
def maxI (x z : Int32) : Int32 := if x < z then z else x
def heldB (q : Fld) (k : Nat) : Bool := decide (q 7 k < 3)
def fishB (q : Fld) (k : Nat) : Bool := decide (q 7 k < 3) && decide (q 6 k = 0)
def wayB (q : Fld) (k : Nat) (wide : Int32) : Bool := fishB q k && decide ((30 - wide) < q 1 k)
def factW (q : Fld) (k j : Nat) : Int32 := if j = 6 then (if q 6 k = 0 then 0 else 1) else q j k
def caughtI (q : Fld) (k : Nat) (x : Int32) : Int32 := minI (((x * q 1 k) * q 2 k) / 3000) (200 - q 5 k)
def catchW (q : Fld) (k : Nat) (x : Int32) : Fld := up2 q 5 k (q 5 k + caughtI q k x)
def loseI (w m : Int32) : Int32 := if w ≤ m then 0 else w - m
def loseW (q : Fld) (k : Nat) (m : Int32) : Fld := up2 q 2 k (loseI (q 2 k) m)
def fineI (q : Fld) (k : Nat) : Int32 := minI 3 (q 4 k)
def breakW (q : Fld) (k : Nat) (wide : Int32) : Fld := up2 (loseW (up2 q 1 k (30 - wide)) k 20) 4 k (q 4 k - fineI q k)
def payW (q : Fld) (k : Nat) : Fld := if q 4 k < q 3 k then (if q 7 k + 1 < 3 then up2 q 7 k (q 7 k + 1) else up2 (up2 q 7 k (q 7 k + 1)) 5 k 0) else up2 (up2 q 4 k (q 4 k - q 3 k)) 7 k 0
def paidI (q : Fld) (k : Nat) : Int32 := if q 4 k < q 3 k then 0 else q 3 k
def newW (q : Fld) (k : Nat) (p s r : Int32) : Fld := up2 (up2 (up2 (up2 (up2 (up2 (up2 (up2 q 0 k p) 1 k s) 2 k 100) 3 k r) 4 k 20) 5 k 0) 6 k 0) 7 k 0
/-- what one weir, one barge holds, put in another's place -/
def cpF (q : Fld) (k : Nat) (q2 : Fld) (k2 : Nat) : Fld := fun j => upd (q j) k (q2 j k2)
def newB (b : Fld) (k : Nat) (tk w : Int32) : Fld := up2 (up2 (up2 (up2 b 0 k tk) 1 k w) 2 k (-1)) 3 k 0
def goB (b : Fld) (k : Nat) (x : Int32) : Fld := up2 b 2 k (minI (b 2 k + 5) x)
theorem cpF_k (q : Fld) (k : Nat) (q2 : Fld) (k2 : Nat) (j i : Nat) (h : i ≠ k) : cpF q k q2 k2 j i = q j i := by simp [cpF, upd, h]
theorem cpF_s (q : Fld) (k : Nat) (q2 : Fld) (k2 j : Nat) : cpF q k q2 k2 j k = q2 j k2 := by simp [cpF, upd]
theorem cpF_id (q : Fld) (k : Nat) : cpF q k q k = q := by funext j; exact up2_0 _ _
theorem catchW_k (q : Fld) (k : Nat) (x : Int32) (j i : Nat) (h : i ≠ k) : catchW q k x j i = q j i := up2_k _ _ _ _ _ _ h
theorem loseW_k (q : Fld) (k : Nat) (m : Int32) (j i : Nat) (h : i ≠ k) : loseW q k m j i = q j i := up2_k _ _ _ _ _ _ h
theorem breakW_k (q : Fld) (k : Nat) (w : Int32) (j i : Nat) (h : i ≠ k) : breakW q k w j i = q j i := by unfold breakW; rw [up2_k _ _ _ _ _ _ h, loseW_k _ _ _ _ _ h, up2_k _ _ _ _ _ _ h]
theorem payW_k (q : Fld) (k j i : Nat) (h : i ≠ k) : payW q k j i = q j i := by
  unfold payW
  split
  · split
    · exact up2_k _ _ _ _ _ _ h
    · rw [up2_k _ _ _ _ _ _ h, up2_k _ _ _ _ _ _ h]
  · rw [up2_k _ _ _ _ _ _ h, up2_k _ _ _ _ _ _ h]
theorem newW_k (q : Fld) (k : Nat) (p s r : Int32) (j i : Nat) (h : i ≠ k) : newW q k p s r j i = q j i := by
  unfold newW
  rw [up2_k _ _ _ _ _ _ h, up2_k _ _ _ _ _ _ h, up2_k _ _ _ _ _ _ h, up2_k _ _ _ _ _ _ h, up2_k _ _ _ _ _ _ h, up2_k _ _ _ _ _ _ h, up2_k _ _ _ _ _ _ h, up2_k _ _ _ _ _ _ h]
theorem newB_k (b : Fld) (k : Nat) (tk w : Int32) (j i : Nat) (h : i ≠ k) : newB b k tk w j i = b j i := by
  unfold newB
  rw [up2_k _ _ _ _ _ _ h, up2_k _ _ _ _ _ _ h, up2_k _ _ _ _ _ _ h, up2_k _ _ _ _ _ _ h]
theorem goB_k (b : Fld) (k : Nat) (x : Int32) (j i : Nat) (h : i ≠ k) : goB b k x j i = b j i := up2_k _ _ _ _ _ _ h
/-- n rounds, from round 0 on -/
def itN {σ : Type} (f : Nat → σ → σ) : Nat → σ → σ
  | 0, x => x
  | n + 1, x => f n (itN f n x)
theorem itN_s {σ : Type} (f : Nat → σ → σ) (n : Nat) (x : σ) : itN f (n + 1) x = f n (itN f n x) := rfl
theorem down {P : Nat → Prop} {c : Nat} (h0 : P c) (hs : ∀ k, k < c → P (k + 1) → P k) : ∀ k, k ≤ c → P k := by
  have key : ∀ n k, k + n = c → P k := by
    intro n
    induction n with
    | zero => intro k hk; rw [show k = c by omega]; exact h0
    | succ n ih => intro k hk; exact hs k (by omega) (ih (k + 1) (by omega))
  intro k hk
  exact key (c - k) k (by omega)
def heldN (q : Fld) (c : Nat) : Int32 := itN (fun i a => if heldB q i = true then a + 1 else a) c 0
def wattleN (q : Fld) (c : Nat) : Int32 := itN (fun i a => if heldB q i = true then a + q 2 i else a) c 0
def eelsN (q : Fld) (c : Nat) : Int32 := itN (fun i a => a + q 5 i) c 0
def wayN (q : Fld) (c : Nat) (wide : Int32) : Int32 := itN (fun i a => if wayB q i wide = true then a + 1 else a) c 0
def richS (q : Fld) (i : Nat) (a : Int32 × Int32) : Int32 × Int32 := if heldB q i = true then (if a.1 = -1 then (nI i, q 4 i) else if a.2 < q 4 i then (nI i, q 4 i) else a) else a
def richE (q : Fld) (c : Nat) : Int32 × Int32 := itN (richS q) c (-1, 0)
def nextS (q : Fld) (bp bw : Int32) (i : Nat) (a : Int32 × Int32) : Int32 × Int32 := if bp < q 0 i then (if q 0 i < a.2 then (if wayB q i bw = true then (nI i, q 0 i) else a) else a) else a
def nextE (q : Fld) (c : Nat) (bp bw : Int32) : Int32 × Int32 := itN (nextS q bp bw) c (-1, 40)
theorem nextE_c (q : Fld) (c : Nat) (bp bw : Int32) : (nextE q c bp bw).1 = -1 ∨ ∃ i, i < c ∧ (nextE q c bp bw).1 = nI i ∧ (nextE q c bp bw).2 = q 0 i := by
  unfold nextE
  induction c with
  | zero => exact Or.inl rfl
  | succ c ih =>
    rw [itN_s]
    have ih' : (itN (nextS q bp bw) c (-1, 40)).1 = -1 ∨ ∃ i, i < c + 1 ∧ (itN (nextS q bp bw) c (-1, 40)).1 = nI i ∧ (itN (nextS q bp bw) c (-1, 40)).2 = q 0 i := by
      rcases ih with h | ⟨i, h1, h2⟩
      · exact Or.inl h
      · exact Or.inr ⟨i, by omega, h2⟩
    unfold nextS at ih' ⊢
    split
    · split
      · split
        · exact Or.inr ⟨c, by omega, rfl, rfl⟩
        · exact ih'
      · exact ih'
    · exact ih'
def moonD (d : Int32) : Int32 := if d ≤ 3 then 0 else if d < 25 then (if d ≤ 9 then 1 else if d < 19 then 2 else 1) else 0
def moonI (n : Nat) : Int32 := moonD (nI (n % 28))
def runI (t : Nat → Int32) (n : Nat) : Int32 := if moonI n = 0 then 3 * t (n % 7) else if moonI n = 1 then 2 * t (n % 7) else t (n % 7)
def catchS (o : Nat → Nat) (i : Nat) (a : Fld × Int32) : Fld × Int32 := if fishB a.1 (o i) = true then (catchW a.1 (o i) a.2, a.2 - caughtI a.1 (o i) a.2) else a
def catchE (o : Nat → Nat) (q : Fld) (c : Nat) (x : Int32) : Fld := (itN (catchS o) c (q, x)).1
def brkS (bp bw : Int32) (i : Nat) (a : Fld × Int32 × Int32) : Fld × Int32 × Int32 := if a.1 0 i = bp then (if wayB a.1 i bw = true then (breakW a.1 i bw, a.2.1 + fineI a.1 i, a.2.2 + 1) else a) else a
def brkE (q : Fld) (c : Nat) (bp bw fi br : Int32) : Fld × Int32 × Int32 := itN (brkS bp bw) c (q, fi, br)
def farI (nx : Int32 × Int32) : Int32 := if nx.1 = -1 then 39 else nx.2
def movS (c : Nat) (j : Nat) (a : Fld × Fld × Int32) : Fld × Fld × Int32 :=
  let pl := minI (a.2.1 2 j + 5) (farI (nextE a.1 c (a.2.1 2 j) (a.2.1 1 j)))
  let r := brkE a.1 c pl (a.2.1 1 j) a.2.2 (a.2.1 3 j)
  (r.1, up2 (up2 a.2.1 2 j pl) 3 j r.2.2, r.2.1)
def movE (q b : Fld) (c bc : Nat) (fi : Int32) : Fld × Fld × Int32 := itN (movS c) bc (q, b, fi)
def lvS (i : Nat) (a : Fld × Nat) : Fld × Nat := if a.1 2 i < 39 then (cpF a.1 a.2 a.1 i, a.2 + 1) else a
def lvE (b : Fld) (bc : Nat) : Fld × Nat := itN lvS bc (b, 0)
def rotI (n : Nat) : Int32 := if moonI n = 1 then 1 else 3
def rotE (q : Fld) (c n : Nat) : Fld := itN (fun i a => if heldB a i = true then loseW a i (rotI n) else a) c q
def rentS (i : Nat) (a : Fld × Int32) : Fld × Int32 := if heldB a.1 i = true then (payW a.1 i, a.2 + paidI a.1 i) else a
def rentE (q : Fld) (c : Nat) (re : Int32) : Fld × Int32 := itN rentS c (q, re)
/-- what nights change: the weirs, the barges, how many barges, the night, how many arrived, fines, rents -/
abbrev Nst : Type := Fld × Fld × Nat × Nat × Int32 × Int32 × Int32
def nightE (t : Nat → Int32) (o : Nat → Nat) (c : Nat) (a : Nst) : Nst :=
  let q1 := catchE o a.1 c (runI t a.2.2.2.1)
  let mv := movE q1 a.2.1 c a.2.2.1 a.2.2.2.2.2.1
  let lv := lvE mv.2.1 a.2.2.1
  let q3 := rotE mv.1 c a.2.2.2.1
  let rn := if a.2.2.2.1 % 14 = 13 then rentE q3 c a.2.2.2.2.2.2 else (q3, a.2.2.2.2.2.2)
  (rn.1, lv.1, lv.2, a.2.2.2.1 + 1, a.2.2.2.2.1 + (nI a.2.2.1 - nI lv.2), mv.2.2, rn.2)
def nightsE (t : Nat → Int32) (o : Nat → Nat) (c k : Nat) (a : Nst) : Nst := itN (fun _ => nightE t o c) k a
/-- the first m from f, the rest from g -/
def cpN {α : Type} (m : Nat) (f g : Nat → α) : Nat → α := fun i => if i < m then f i else g i
theorem cpN_0 {α : Type} (f g : Nat → α) : cpN 0 f g = g := by funext i; simp [cpN]
theorem cpN_u {α : Type} (m : Nat) (f g : Nat → α) : (fun i => if i = m then f m else cpN m f g i) = cpN (m + 1) f g := by
  funext i
  unfold cpN
  by_cases h : i = m
  · subst h; simp
  · by_cases h2 : i < m
    · simp [h, h2, show i < m + 1 by omega]
    · simp [h, h2, show ¬ i < m + 1 by omega]
theorem cpN_upd (m : Nat) (f g : Nat → Int32) : upd (cpN m f g) m (f m) = cpN (m + 1) f g := cpN_u m f g
theorem cpN_lt {α : Type} {m i : Nat} (f g : Nat → α) (h : i < m) : cpN m f g i = f i := by simp [cpN, h]
/-- the weirs (barges) of two states: the first m of the one, the rest of the other -/
def cp2 (m : Nat) (q g : Fld) : Fld := fun j => cpN m (q j) (g j)
theorem cp2_0 (q g : Fld) : cp2 0 q g = g := by funext j; exact cpN_0 _ _
theorem cp2_s (m : Nat) (q g : Fld) : cpF (cp2 m q g) m q m = cp2 (m + 1) q g := by funext j; exact cpN_upd _ _ _
