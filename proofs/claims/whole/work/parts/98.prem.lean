/-! what the law's tables and the Statement give of the start -/
theorem t_nf : ∀ x, x ∈ zNF → Cond.fieldLinkNest x.1 x.2.1 x.2.2.1 x.2.2.2.1 x.2.2.2.2.1 x.2.2.2.2.2 ∈ lw_tbl := by decide +kernel
theorem t_zb : ∀ w, w ∈ zB → w ∈ lw_tbl := by decide +kernel
theorem t_str : ∀ q, q ∈ zStr → Cond.stringRef RX3 q.1 q.2 ∈ lw_tbl := by decide +kernel
theorem t_ml : Cond.methodLinkNest RX1 24 yX2_init RX3 ∈ lw_tbl ∧ Cond.methodLinkNest RX1 31 yX0_init RX3 ∈ lw_tbl ∧ Cond.methodLinkNest RX5 21 yX4_init RX5 ∈ lw_tbl := by decide +kernel
theorem t_ao : Cond.arrayOver (.object RX2) ∈ lw_tbl ∧ Cond.arrayOver (.object RX0) ∈ lw_tbl ∧ Cond.arrayClass .int ∈ lw_tbl ∧ Cond.arrayClass .long ∈ lw_tbl := by decide +kernel
theorem t_in0 : ∀ w ∈ u_ws RX0 TX0 4, w ∈ lw_tbl := by decide +kernel
theorem t_in1 : ∀ w ∈ u_ws RX1 TX1 10, w ∈ lw_tbl := by decide +kernel
theorem t_in2 : ∀ w ∈ u_ws RX2 TX2 8, w ∈ lw_tbl := by decide +kernel
theorem t_in3 : ∀ w ∈ u_ws RX3 TX3 2, w ∈ lw_tbl := by decide +kernel
theorem t_in4 : ∀ w ∈ u_ws RX4 TX4 16, w ∈ lw_tbl := by decide +kernel
theorem t_in5 : ∀ w ∈ u_ws RX5 TX5 7, w ∈ lw_tbl := by decide +kernel
theorem t_inst : Cond.instantiable RX0 4 ∈ lw_tbl ∧ Cond.instantiable RX1 10 ∈ lw_tbl ∧ Cond.instantiable RX2 8 ∈ lw_tbl ∧ Cond.instantiable RX3 2 ∈ lw_tbl ∧ Cond.instantiable RX4 16 ∈ lw_tbl ∧ Cond.instantiable RX5 7 ∈ lw_tbl := by decide +kernel
theorem t_st : Cond.laysStatic Bundle.tN "UNASSIGNED_STACK" Bundle.steD ∈ lw_tbl ∧ Cond.laysStatic Bundle.tN "SUPPRESSED_SENTINEL" Bundle.listD ∈ lw_tbl ∧ Cond.initialized Bundle.tN ∈ lw_tbl := by decide +kernel
section PREM
variable {s : State} {a : Array Value}
theorem p_arr {ty : FieldType} (hRA : ∀ cA : ClassId, s.vm.findClass ("[" ++ ty.toString) = some cA → va_RA s cA ty) (h : (Cond.arrayClass ty).before a s = true) : ∃ cA, ArrOfT s cA ty ∧ va_RA s cA ty := by
  obtain ⟨cA, k, comp, h1, h2, h3⟩ := Cond.arrayClass_spec h
  exact ⟨cA, fun n z => ⟨fun k9 h9 => (by cases h9), k, h2, comp, h3⟩, hRA cA h1⟩
theorem p_obj {C : String} (h : (Cond.arrayOver (.object C)).before a s = true) : ∃ cA, ArrOfT s cA (.object C) ∧ va_RA s cA (.object C) := by
  obtain ⟨comp, c, k, h1, h2, h3, h4, h5⟩ := Cond.arrayOver_spec h
  exact ⟨c, fun n z => ⟨fun k9 h9 => (by cases h9), k, h3, comp, h4⟩, k, comp, h3, h4, h1, h5⟩
theorem p_K (hts : ∀ w ∈ lw_tbl, w.before a s = true) : ∃ (D : va_G) (y : Nat → ClassId), va_K D vwCl (tyL y) s := by
  obtain ⟨i0, i1, i2, i3, i4, i5⟩ := t_inst
  obtain ⟨a2, a0, ai, al⟩ := t_ao
  obtain ⟨c0, f0, k0⟩ := u_known hts t_in0 (hts _ i0)
  obtain ⟨c1, f1, k1⟩ := u_known hts t_in1 (hts _ i1)
  obtain ⟨c2, f2, k2⟩ := u_known hts t_in2 (hts _ i2)
  obtain ⟨c3, f3, k3⟩ := u_known hts t_in3 (hts _ i3)
  obtain ⟨c4, f4, k4⟩ := u_known hts t_in4 (hts _ i4)
  obtain ⟨c5, f5, k5⟩ := u_known hts t_in5 (hts _ i5)
  obtain ⟨y0, u0, v0⟩ := p_arr (ty := .int) (fun _ h => h) (hts _ ai)
  obtain ⟨y1, u1, v1⟩ := p_obj (hts _ a2)
  obtain ⟨y2, u2, v2⟩ := p_obj (hts _ a0)
  obtain ⟨y3, u3, v3⟩ := p_arr (ty := .long) (fun _ h => h) (hts _ al)
  refine ⟨(fun i => if i = 0 then c0 else if i = 1 then c1 else if i = 2 then c2 else if i = 3 then c3 else if i = 4 then c4 else c5, fun i => if i = 0 then f0 else if i = 1 then f1 else if i = 2 then f2 else if i = 3 then f3 else if i = 4 then f4 else f5), fun i => if i = 0 then y0 else if i = 1 then y1 else if i = 2 then y2 else y3, ?_, ?_⟩
  · intro i q hq
    have hi : i < 6 := (List.getElem?_eq_some_iff.mp hq).1
    rcases (show i = 0 ∨ i = 1 ∨ i = 2 ∨ i = 3 ∨ i = 4 ∨ i = 5 by omega) with rfl | rfl | rfl | rfl | rfl | rfl
    · cases hq; exact k0
    · cases hq; exact k1
    · cases hq; exact k2
    · cases hq; exact k3
    · cases hq; exact k4
    · cases hq; exact k5
  · intro i q hq
    have hi : i < 4 := (List.getElem?_eq_some_iff.mp hq).1
    rcases (show i = 0 ∨ i = 1 ∨ i = 2 ∨ i = 3 by omega) with rfl | rfl | rfl | rfl
    · cases hq; exact ⟨u0, v0⟩
    · cases hq; exact ⟨u1, v1⟩
    · cases hq; exact ⟨u2, v2⟩
    · cases hq; exact ⟨u3, v3⟩
theorem p_N (hts : ∀ w ∈ lw_tbl, w.before a s = true) : zN0 s := fun x hx => va_Nw.of rfl (hts _ (t_nf x hx))
theorem p_Q (hts : ∀ w ∈ lw_tbl, w.before a s = true) : zQ0 s := by
  obtain ⟨m1, m2, m3⟩ := t_ml
  obtain ⟨a2, a0, _, _⟩ := t_ao
  exact ⟨p_N hts, va_AO.of (hts _ a2), va_AO.of (hts _ a0), va_Nw.of rfl (hts _ m1), va_Nw.of rfl (hts _ m2), va_Nw.of rfl (hts _ m3)⟩
theorem p_X (hts : ∀ w ∈ lw_tbl, w.before a s = true) (hg : (Jvm.Cond.and given_1 narrow_1).before a s = true) : zX0 s := by
  have hs := flat_of_before _ hg
  obtain ⟨l1, l2, l3⟩ := t_st
  refine ⟨⟨fun w hw => va_Nw.of (by rcases List.mem_append.mp hw with h | h <;> obtain ⟨x, -, rfl⟩ := List.mem_map.mp h <;> rfl) (hts _ (t_zb w hw)), ?_, ?_, fun q hq => ?_⟩, fun x hx => va_Nc.of (hs _ ?_)⟩
  · exact vx_Zqof (hts _ l1) (hts _ l3) (hs _ (by decide +kernel)) (fun _ _ h => h)
  · exact vx_Zqof (hts _ l2) (hts _ l3) (hs _ (by decide +kernel)) (fun _ _ h => h)
  · have h1 : (Cond.exactly (.string RX3 q.1) "java/lang/String").before a s = true := hs _ (by
      have h9 : ∀ q, q ∈ zStr → Cond.exactly (.string RX3 q.1) "java/lang/String" ∈ flatC (Jvm.Cond.and given_1 narrow_1) := by decide +kernel
      exact h9 q hq)
    obtain ⟨sa, _, _, _, h2, _⟩ := Cond.exactly_spec h1
    exact ⟨sa, vk_R.of (hts _ (t_str q hq)) h2⟩
  · have h9 : ∀ x, x ∈ zNc → Cond.not (.castable x.1 x.2) ∈ flatC (Jvm.Cond.and given_1 narrow_1) := by decide +kernel
    exact h9 x hx
end PREM
