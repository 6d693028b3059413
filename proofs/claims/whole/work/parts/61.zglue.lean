def zW (Y Z Z2 : Nat → Nat) (y : Nat → ClassId) (th : Int32) (t : Nat → Int32) (c : Nat) (q b : Fld) (bc n : Nat) (ar fi rn : Int32) (T : Nst) : va_W :=
  oW Y (Z 0) (Z2 0) y th t c (q 0) (q 3) ++ (stW Z (Y 0) y q b bc n ar fi rn ++ stW Z2 (Y 0) y T.1 T.2.1 T.2.2.1 T.2.2.2.1 T.2.2.2.2.1 T.2.2.2.2.2.1 T.2.2.2.2.2.2)

theorem zW_q0 {Y Z Z2 : Nat → Nat} {th : Int32} {t : Nat → Int32} {c : Nat} {q b : Fld} {bc n : Nat} {ar fi rn : Int32} {T : Nst} {y : Nat → ClassId} {k : Nat} {x : Int32} : (zW Y Z Z2 y th t c q b bc n ar fi rn T).set 2 (Y 2, .inl (y 0, 6, .inl (upd (q 0) k x))) = zW Y Z Z2 y th t c (up2 q 0 k x) b bc n ar fi rn T := rfl
theorem zW_q3 {Y Z Z2 : Nat → Nat} {th : Int32} {t : Nat → Int32} {c : Nat} {q b : Fld} {bc n : Nat} {ar fi rn : Int32} {T : Nst} {y : Nat → ClassId} {k : Nat} {x : Int32} : (zW Y Z Z2 y th t c q b bc n ar fi rn T).set 3 (Y 3, .inl (y 0, 6, .inl (upd (q 3) k x))) = zW Y Z Z2 y th t c (up2 q 3 k x) b bc n ar fi rn T := rfl
theorem zW_q1 {Y Z Z2 : Nat → Nat} {th : Int32} {t : Nat → Int32} {c : Nat} {q b : Fld} {bc n : Nat} {ar fi rn : Int32} {T : Nst} {y : Nat → ClassId} {k : Nat} {x : Int32} : (zW Y Z Z2 y th t c q b bc n ar fi rn T).set 5 (Z 1, .inl (y 0, 6, .inl (upd (q 1) k x))) = zW Y Z Z2 y th t c (up2 q 1 k x) b bc n ar fi rn T := rfl
theorem zW_q2 {Y Z Z2 : Nat → Nat} {th : Int32} {t : Nat → Int32} {c : Nat} {q b : Fld} {bc n : Nat} {ar fi rn : Int32} {T : Nst} {y : Nat → ClassId} {k : Nat} {x : Int32} : (zW Y Z Z2 y th t c q b bc n ar fi rn T).set 6 (Z 2, .inl (y 0, 6, .inl (upd (q 2) k x))) = zW Y Z Z2 y th t c (up2 q 2 k x) b bc n ar fi rn T := rfl
theorem zW_q4 {Y Z Z2 : Nat → Nat} {th : Int32} {t : Nat → Int32} {c : Nat} {q b : Fld} {bc n : Nat} {ar fi rn : Int32} {T : Nst} {y : Nat → ClassId} {k : Nat} {x : Int32} : (zW Y Z Z2 y th t c q b bc n ar fi rn T).set 7 (Z 3, .inl (y 0, 6, .inl (upd (q 4) k x))) = zW Y Z Z2 y th t c (up2 q 4 k x) b bc n ar fi rn T := rfl
theorem zW_q5 {Y Z Z2 : Nat → Nat} {th : Int32} {t : Nat → Int32} {c : Nat} {q b : Fld} {bc n : Nat} {ar fi rn : Int32} {T : Nst} {y : Nat → ClassId} {k : Nat} {x : Int32} : (zW Y Z Z2 y th t c q b bc n ar fi rn T).set 8 (Z 4, .inl (y 0, 6, .inl (upd (q 5) k x))) = zW Y Z Z2 y th t c (up2 q 5 k x) b bc n ar fi rn T := rfl
theorem zW_q6 {Y Z Z2 : Nat → Nat} {th : Int32} {t : Nat → Int32} {c : Nat} {q b : Fld} {bc n : Nat} {ar fi rn : Int32} {T : Nst} {y : Nat → ClassId} {k : Nat} {x : Int32} : (zW Y Z Z2 y th t c q b bc n ar fi rn T).set 9 (Z 5, .inl (y 0, 6, .inl (upd (q 6) k x))) = zW Y Z Z2 y th t c (up2 q 6 k x) b bc n ar fi rn T := rfl
theorem zW_q7 {Y Z Z2 : Nat → Nat} {th : Int32} {t : Nat → Int32} {c : Nat} {q b : Fld} {bc n : Nat} {ar fi rn : Int32} {T : Nst} {y : Nat → ClassId} {k : Nat} {x : Int32} : (zW Y Z Z2 y th t c q b bc n ar fi rn T).set 10 (Z 6, .inl (y 0, 6, .inl (upd (q 7) k x))) = zW Y Z Z2 y th t c (up2 q 7 k x) b bc n ar fi rn T := rfl
theorem zW_b1 {Y Z Z2 : Nat → Nat} {th : Int32} {t : Nat → Int32} {c : Nat} {q b : Fld} {bc n : Nat} {ar fi rn : Int32} {T : Nst} {y : Nat → ClassId} {k : Nat} {x : Int32} : (zW Y Z Z2 y th t c q b bc n ar fi rn T).set 11 (Z 7, .inl (y 0, 5, .inl (upd (b 1) k x))) = zW Y Z Z2 y th t c q (up2 b 1 k x) bc n ar fi rn T := rfl
theorem zW_b2 {Y Z Z2 : Nat → Nat} {th : Int32} {t : Nat → Int32} {c : Nat} {q b : Fld} {bc n : Nat} {ar fi rn : Int32} {T : Nst} {y : Nat → ClassId} {k : Nat} {x : Int32} : (zW Y Z Z2 y th t c q b bc n ar fi rn T).set 12 (Z 8, .inl (y 0, 5, .inl (upd (b 2) k x))) = zW Y Z Z2 y th t c q (up2 b 2 k x) bc n ar fi rn T := rfl
theorem zW_b3 {Y Z Z2 : Nat → Nat} {th : Int32} {t : Nat → Int32} {c : Nat} {q b : Fld} {bc n : Nat} {ar fi rn : Int32} {T : Nst} {y : Nat → ClassId} {k : Nat} {x : Int32} : (zW Y Z Z2 y th t c q b bc n ar fi rn T).set 13 (Z 9, .inl (y 0, 5, .inl (upd (b 3) k x))) = zW Y Z Z2 y th t c q (up2 b 3 k x) bc n ar fi rn T := rfl
theorem zW_T1 {Y Z Z2 : Nat → Nat} {th : Int32} {t : Nat → Int32} {c : Nat} {q b : Fld} {bc n : Nat} {ar fi rn : Int32} {T : Nst} {y : Nat → ClassId} {k : Nat} {x : Int32} : (zW Y Z Z2 y th t c q b bc n ar fi rn T).set 16 (Z2 1, .inl (y 0, 6, .inl (upd (T.1 1) k x))) = zW Y Z Z2 y th t c q b bc n ar fi rn (up2 T.1 1 k x, T.2) := rfl
theorem zW_s {y : Nat → ClassId} {Y Z Z2 : Nat → Nat} {th : Int32} {t : Nat → Int32} {c : Nat} {q b : Fld} {bc n : Nat} {ar fi rn : Int32} {T : Nst} : zW Y Z Z2 y th t c q b bc n ar fi rn T = mW Y Z (Z 0) (Z2 0) y th t c q b bc n ar fi rn ++ (stW Z2 (Y 0) y T.1 T.2.1 T.2.2.1 T.2.2.2.1 T.2.2.2.2.1 T.2.2.2.2.2.1 T.2.2.2.2.2.2) := by unfold zW mW; rw [List.append_assoc]
theorem zz_in {y : Nat → ClassId} {Y Z Z2 : Nat → Nat} {th : Int32} {t : Nat → Int32} {c : Nat} {q b : Fld} {bc n : Nat} {ar fi rn : Int32} {T : Nst} : ∀ z, z ∈ mW Y Z (Z 0) (Z2 0) y th t c q b bc n ar fi rn → z ∈ zW Y Z Z2 y th t c q b bc n ar fi rn T := fun z h => by rw [zW_s]; exact List.mem_append_left _ h
theorem zz_sP {D : va_G} {H : Heap} {y : Nat → ClassId} {Y Z Z2 : Nat → Nat} {th : Int32} {t : Nat → Int32} {c : Nat} {q b : Fld} {bc n : Nat} {ar fi rn : Int32} {T : Nst} (hP : va_P D vwCl (zW Y Z Z2 y th t c q b bc n ar fi rn T) H) : va_P D vwCl (mW Y Z (Z 0) (Z2 0) y th t c q b bc n ar fi rn) H := z_sub_P hP zz_in
theorem zz_sD {A0 : Nat → Prop} {y : Nat → ClassId} {Y Z Z2 : Nat → Nat} {th : Int32} {t : Nat → Int32} {c : Nat} {q b : Fld} {bc n : Nat} {ar fi rn : Int32} {T : Nst} (hD : va_D A0 (zW Y Z Z2 y th t c q b bc n ar fi rn T)) : va_D (fun _ => True) (mW Y Z (Z 0) (Z2 0) y th t c q b bc n ar fi rn) := z_D_m (l1 := []) (l2 := (stW Z2 (Y 0) y T.1 T.2.1 T.2.2.1 T.2.2.2.1 T.2.2.2.2.1 T.2.2.2.2.2.1 T.2.2.2.2.2.2)) (by rw [List.nil_append, ← zW_s]; exact hD)
theorem zz_sF {A0 : Nat → Prop} {H0 H : Heap} {locs : List Loc} {y : Nat → ClassId} {Y Z Z2 : Nat → Nat} {th : Int32} {t : Nat → Int32} {c : Nat} {q b : Fld} {bc n : Nat} {ar fi rn : Int32} {T : Nst} (hD : va_D A0 (zW Y Z Z2 y th t c q b bc n ar fi rn T)) (hS : va_S A0 H0 H locs) (hA : ∀ z9 : Nat, H0.size ≤ z9 → A0 z9) : ∀ z9 : Nat, va_A (mW Y Z (Z 0) (Z2 0) y th t c q b bc n ar fi rn) H.size z9 → A0 z9 := z_sub_F hD hS hA zz_in
theorem zz_sB {D : va_G} {A0 : Nat → Prop} {H : Heap} {y : Nat → ClassId} {Y Z Z2 : Nat → Nat} {th : Int32} {t : Nat → Int32} {c : Nat} {q b : Fld} {bc n : Nat} {ar fi rn : Int32} {T : Nst} {th1 : Int32} {t1 : Nat → Int32} {c1 : Nat} {q1 : Fld} {b1 : Fld} {bc1 : Nat} {n1 : Nat} {ar1 : Int32} {fi1 : Int32} {rn1 : Int32} {H1 : Heap} (hP : va_P D vwCl (zW Y Z Z2 y th t c q b bc n ar fi rn T) H) (hD : va_D A0 (zW Y Z Z2 y th t c q b bc n ar fi rn T)) (hP1 : va_P D vwCl (mW Y Z (Z 0) (Z2 0) y th1 t1 c1 q1 b1 bc1 n1 ar1 fi1 rn1) H1) (hfr : ∀ z9 : Nat, z9 < H.size → ¬ va_A (mW Y Z (Z 0) (Z2 0) y th t c q b bc n ar fi rn) H.size z9 → H1[z9]? = H[z9]?) : va_P D vwCl (zW Y Z Z2 y th1 t1 c1 q1 b1 bc1 n1 ar1 fi1 rn1 T) H1 ∧ va_D A0 (zW Y Z Z2 y th1 t1 c1 q1 b1 bc1 n1 ar1 fi1 rn1 T) :=
  z_seg (l1 := []) (w := mW Y Z (Z 0) (Z2 0) y th t c q b bc n ar fi rn) (w1 := mW Y Z (Z 0) (Z2 0) y th1 t1 c1 q1 b1 bc1 n1 ar1 fi1 rn1) (l2 := (stW Z2 (Y 0) y T.1 T.2.1 T.2.2.1 T.2.2.2.1 T.2.2.2.2.1 T.2.2.2.2.2.1 T.2.2.2.2.2.2)) hP hD zW_s zW_s.symm rfl hP1 hfr
theorem zW_a {y : Nat → ClassId} {Y Z Z2 : Nat → Nat} {th : Int32} {t : Nat → Int32} {c : Nat} {q : Fld} {T : Nst} (hq0 : T.1 0 = q 0) (hq3 : T.1 3 = q 3) : mW Y Z2 (Z 0) (Z2 0) y th t c T.1 T.2.1 T.2.2.1 T.2.2.2.1 T.2.2.2.2.1 T.2.2.2.2.2.1 T.2.2.2.2.2.2 = oW Y (Z 0) (Z2 0) y th t c (q 0) (q 3) ++ (stW Z2 (Y 0) y T.1 T.2.1 T.2.2.1 T.2.2.2.1 T.2.2.2.2.1 T.2.2.2.2.2.1 T.2.2.2.2.2.2) := by unfold mW; rw [hq0, hq3]
theorem zz_ain {y : Nat → ClassId} {Y Z Z2 : Nat → Nat} {th : Int32} {t : Nat → Int32} {c : Nat} {q b : Fld} {bc n : Nat} {ar fi rn : Int32} {T : Nst} (hq0 : T.1 0 = q 0) (hq3 : T.1 3 = q 3) : ∀ z, z ∈ mW Y Z2 (Z 0) (Z2 0) y th t c T.1 T.2.1 T.2.2.1 T.2.2.2.1 T.2.2.2.2.1 T.2.2.2.2.2.1 T.2.2.2.2.2.2 → z ∈ zW Y Z Z2 y th t c q b bc n ar fi rn T := fun z h => by
  rw [zW_a hq0 hq3] at h
  rcases List.mem_append.mp h with h | h
  · exact List.mem_append_left _ h
  · exact List.mem_append_right _ (List.mem_append_right _ h)
theorem zz_aP {D : va_G} {H : Heap} {y : Nat → ClassId} {Y Z Z2 : Nat → Nat} {th : Int32} {t : Nat → Int32} {c : Nat} {q b : Fld} {bc n : Nat} {ar fi rn : Int32} {T : Nst} (hq0 : T.1 0 = q 0) (hq3 : T.1 3 = q 3) (hP : va_P D vwCl (zW Y Z Z2 y th t c q b bc n ar fi rn T) H) : va_P D vwCl (mW Y Z2 (Z 0) (Z2 0) y th t c T.1 T.2.1 T.2.2.1 T.2.2.2.1 T.2.2.2.2.1 T.2.2.2.2.2.1 T.2.2.2.2.2.2) H := z_sub_P hP (zz_ain hq0 hq3)
theorem zz_sw {A0 : Nat → Prop} {y : Nat → ClassId} {Y Z Z2 : Nat → Nat} {th : Int32} {t : Nat → Int32} {c : Nat} {q b : Fld} {bc n : Nat} {ar fi rn : Int32} {T : Nst} (hD : va_D A0 (zW Y Z Z2 y th t c q b bc n ar fi rn T)) : va_D A0 ((oW Y (Z 0) (Z2 0) y th t c (q 0) (q 3) ++ (stW Z2 (Y 0) y T.1 T.2.1 T.2.2.1 T.2.2.2.1 T.2.2.2.2.1 T.2.2.2.2.2.1 T.2.2.2.2.2.2)) ++ (stW Z (Y 0) y q b bc n ar fi rn)) := va_D.swap (by rw [List.append_assoc]; exact hD)
theorem zz_aD {A0 : Nat → Prop} {y : Nat → ClassId} {Y Z Z2 : Nat → Nat} {th : Int32} {t : Nat → Int32} {c : Nat} {q b : Fld} {bc n : Nat} {ar fi rn : Int32} {T : Nst} (hq0 : T.1 0 = q 0) (hq3 : T.1 3 = q 3) (hD : va_D A0 (zW Y Z Z2 y th t c q b bc n ar fi rn T)) : va_D (fun _ => True) (mW Y Z2 (Z 0) (Z2 0) y th t c T.1 T.2.1 T.2.2.1 T.2.2.2.1 T.2.2.2.2.1 T.2.2.2.2.2.1 T.2.2.2.2.2.2) := by
  rw [zW_a hq0 hq3]
  exact z_D_m (l1 := []) (l2 := (stW Z (Y 0) y q b bc n ar fi rn)) (zz_sw hD)
theorem zz_aF {A0 : Nat → Prop} {H0 H : Heap} {locs : List Loc} {y : Nat → ClassId} {Y Z Z2 : Nat → Nat} {th : Int32} {t : Nat → Int32} {c : Nat} {q b : Fld} {bc n : Nat} {ar fi rn : Int32} {T : Nst} (hq0 : T.1 0 = q 0) (hq3 : T.1 3 = q 3) (hD : va_D A0 (zW Y Z Z2 y th t c q b bc n ar fi rn T)) (hS : va_S A0 H0 H locs) (hA : ∀ z9 : Nat, H0.size ≤ z9 → A0 z9) : ∀ z9 : Nat, va_A (mW Y Z2 (Z 0) (Z2 0) y th t c T.1 T.2.1 T.2.2.1 T.2.2.2.1 T.2.2.2.2.1 T.2.2.2.2.2.1 T.2.2.2.2.2.2) H.size z9 → A0 z9 := z_sub_F hD hS hA (zz_ain hq0 hq3)
theorem zz_aB {D : va_G} {A0 : Nat → Prop} {H : Heap} {y : Nat → ClassId} {Y Z Z2 : Nat → Nat} {th : Int32} {t : Nat → Int32} {c : Nat} {q b : Fld} {bc n : Nat} {ar fi rn : Int32} {T : Nst} {T1 : Nst} {H1 : Heap} (hP : va_P D vwCl (zW Y Z Z2 y th t c q b bc n ar fi rn T) H) (hD : va_D A0 (zW Y Z Z2 y th t c q b bc n ar fi rn T)) (hq0 : T.1 0 = q 0) (hq3 : T.1 3 = q 3) (hk0 : T1.1 0 = q 0) (hk3 : T1.1 3 = q 3) (hP1 : va_P D vwCl (mW Y Z2 (Z 0) (Z2 0) y th t c T1.1 T1.2.1 T1.2.2.1 T1.2.2.2.1 T1.2.2.2.2.1 T1.2.2.2.2.2.1 T1.2.2.2.2.2.2) H1) (hfr : ∀ z9 : Nat, z9 < H.size → ¬ va_A (mW Y Z2 (Z 0) (Z2 0) y th t c T.1 T.2.1 T.2.2.1 T.2.2.2.1 T.2.2.2.2.1 T.2.2.2.2.2.1 T.2.2.2.2.2.2) H.size z9 → H1[z9]? = H[z9]?) : va_P D vwCl (zW Y Z Z2 y th t c q b bc n ar fi rn T1) H1 ∧ va_D A0 (zW Y Z Z2 y th t c q b bc n ar fi rn T1) := by
  have hPs := va_P.swap (a := oW Y (Z 0) (Z2 0) y th t c (q 0) (q 3)) (b := (stW Z (Y 0) y q b bc n ar fi rn)) (c := (stW Z2 (Y 0) y T.1 T.2.1 T.2.2.1 T.2.2.2.1 T.2.2.2.2.1 T.2.2.2.2.2.1 T.2.2.2.2.2.2)) (by rw [List.append_assoc]; exact hP)
  rw [zW_a hk0 hk3] at hP1
  rw [zW_a hq0 hq3] at hfr
  obtain ⟨h1, h2⟩ := z_seg (l1 := []) (w := oW Y (Z 0) (Z2 0) y th t c (q 0) (q 3) ++ (stW Z2 (Y 0) y T.1 T.2.1 T.2.2.1 T.2.2.2.1 T.2.2.2.2.1 T.2.2.2.2.2.1 T.2.2.2.2.2.2)) (w1 := oW Y (Z 0) (Z2 0) y th t c (q 0) (q 3) ++ (stW Z2 (Y 0) y T1.1 T1.2.1 T1.2.2.1 T1.2.2.2.1 T1.2.2.2.2.1 T1.2.2.2.2.2.1 T1.2.2.2.2.2.2)) (l2 := (stW Z (Y 0) y q b bc n ar fi rn)) hPs (zz_sw hD) rfl rfl rfl hP1 hfr
  have h3 := va_P.swap h1
  have h4 := va_D.swap h2
  rw [List.append_assoc] at h3 h4
  exact ⟨h3, h4⟩
/-- places and rents stay -/
def kp (q1 q : Fld) : Prop := q1 0 = q 0 ∧ q1 3 = q 3
theorem kp.refl (q : Fld) : kp q q := ⟨rfl, rfl⟩
theorem kp.trans {a b c : Fld} (h : kp a b) (h2 : kp b c) : kp a c := ⟨h.1.trans h2.1, h.2.trans h2.2⟩
theorem kp_u {q : Fld} {j k : Nat} {x : Int32} (h0 : j ≠ 0) (h3 : j ≠ 3) : kp (up2 q j k x) q := ⟨by unfold up2; rw [if_neg (Ne.symm h0)], by unfold up2; rw [if_neg (Ne.symm h3)]⟩
theorem itN_kp {σ : Type} {f : Nat → σ → σ} {g : σ → Fld} (h : ∀ k a, kp (g (f k a)) (g a)) : ∀ (k : Nat) (a : σ), kp (g (itN f k a)) (g a)
  | 0, _ => kp.refl _
  | k + 1, a => (h k (itN f k a)).trans (itN_kp h k a)
theorem dnS_q0 (p ask : Int32) (k : Nat) (a : Dst) : kp (dnS p ask k a).1 a.1 := by
  unfold dnS
  split
  · split
    · split
      · exact kp.refl _
      · exact kp_u (by decide) (by decide)
    · exact kp.refl _
  · exact kp.refl _
theorem dnO_q0 (ask : Int32) (c : Nat) : ∀ (m : Nat) (a : Dst), kp (dnO ask c m a).1 a.1
  | 0, _ => kp.refl _
  | m + 1, a => (dnO_q0 ask c m (dnI (nI m) ask c a)).trans (itN_kp (g := fun a => a.1) (dnS_q0 (nI m) ask) c a)
theorem bkS_q0 (bp bw : Int32) (k : Nat) (a : Bst) : kp (bkS bp bw k a).1 a.1 := by
  unfold bkS
  split
  · split
    · exact ((kp_u (by decide) (by decide)).trans (kp_u (by decide) (by decide))).trans (kp_u (by decide) (by decide))
    · exact kp.refl _
  · exact kp.refl _
theorem guB_q0 (c j : Nat) (a : Gst) : kp (guB c j a).1 a.1 := itN_kp (g := fun a : Bst => a.1) (bkS_q0 _ _) c _
theorem guE_q0 (c j : Nat) : ∀ (m : Nat) (a : Gst), kp (guE c j m a).1 a.1
  | 0, _ => kp.refl _
  | m + 1, a => by
    rw [guE_s]
    split
    · split
      · exact (guE_q0 c j m (guS c j a)).trans (guB_q0 c j a)
      · exact guB_q0 c j a
    · exact kp.refl _
theorem upM_q0 (c m : Nat) (a : Gst) : kp (upM c m a).1 a.1 := itN_kp (g := fun a : Gst => a.1) (fun k a => guE_q0 c k 5 a) m a
theorem rotM_q0 (q : Fld) (c n : Nat) : kp (rotM q c n) q := itN_kp (g := fun a : Fld => a) (fun k a => by
  split
  · exact kp_u (by decide) (by decide)
  · exact kp.refl _) c q
theorem payM_q0 (q : Fld) (k : Nat) : kp (payM q k) q := by
  unfold payM
  split
  · split
    · exact (kp_u (by decide) (by decide)).trans (kp_u (by decide) (by decide))
    · exact kp_u (by decide) (by decide)
  · exact (kp_u (by decide) (by decide)).trans (kp_u (by decide) (by decide))
theorem rentM_q0 (q : Fld) (c : Nat) (rn : Int32) : kp (rentM q c rn).1 q := itN_kp (g := fun a : Fld × Int32 => a.1) (fun k a => by
  unfold rentMS
  split
  · exact payM_q0 _ _
  · exact kp.refl _) c (q, rn)
theorem nightM_q0 (t : Nat → Int32) (c : Nat) (a : Nst) : kp (nightM t c a).1 a.1 := by
  have h := ((rotM_q0 (upM c a.2.2.1 ((dnO (-1) c 40 (a.1, runM t a.2.2.2.1, 0)).1, a.2.1, a.2.2.2.2.2.1)).1 c a.2.2.2.1).trans (upM_q0 _ _ _)).trans (dnO_q0 (-1) c 40 (a.1, runM t a.2.2.2.1, 0))
  unfold nightM
  dsimp only
  split
  · exact (rentM_q0 _ _ _).trans h
  · exact h
theorem nightsM_q0 (t : Nat → Int32) (c k : Nat) (a : Nst) : kp (nightsM t c k a).1 a.1 := itN_kp (g := fun a : Nst => a.1) (fun _ a => nightM_q0 t c a) k a
theorem nI_m1 {c : Nat} : nI (c + 1) - 1 = nI c := nI_pred _
theorem inW_t {k c : Nat} (hk : k < c) (hc : c ≤ 6) : inB 0 (nI k) (nI c - 1) = true := by
  obtain ⟨c', rfl⟩ : ∃ c', c = c' + 1 := ⟨c - 1, by omega⟩
  rw [nI_m1]
  unfold inB
  rw [decide_eq_true (show (0 : Int32) ≤ nI k from nI_le (a := 0) (b := k) (by omega) (by omega)), decide_eq_true (nI_le (a := k) (b := c') (by omega) (by omega))]
  rfl
theorem inW_f {x : Int32} {c : Nat} (hx : x < 0 ∨ nI c ≤ x) (hc : c ≤ 6) : inB 0 x (nI c - 1) = false := by
  unfold inB
  rcases hx with h | h
  · rw [decide_eq_false (Int32.not_le.mpr h)]; rfl
  · have h2 : nI c - 1 < x := by
      refine Int32.lt_of_lt_of_le ?_ h
      rcases (show c = 0 ∨ c = 1 ∨ c = 2 ∨ c = 3 ∨ c = 4 ∨ c = 5 ∨ c = 6 by omega) with rfl | rfl | rfl | rfl | rfl | rfl | rfl <;> decide
    rw [decide_eq_false (Int32.not_le.mpr h2), Bool.and_false]
