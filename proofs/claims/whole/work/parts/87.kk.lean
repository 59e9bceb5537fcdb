/-! ===== what the tables say at the law's entry, beside the words ===== -/
theorem kn_nest_0 : Cond.methodLinkNest RX5 29 yX3_init RX10 ∈ lw_tbl := List.mem_append_right _ (List.mem_of_getElem? (i := 44) (by decide +kernel))
theorem kn_nest_1 : Cond.methodLinkNest RX3 9 yX7_init RX10 ∈ lw_tbl := List.mem_append_right _ (List.mem_of_getElem? (i := 50) (by decide +kernel))
theorem kn_nest_2 : Cond.methodLinkNest RX5 30 yX4_init RX10 ∈ lw_tbl := List.mem_append_right _ (List.mem_of_getElem? (i := 87) (by decide +kernel))
theorem kn_nest_3 : Cond.methodLinkNest RX4 11 yX7_init RX10 ∈ lw_tbl := List.mem_append_right _ (List.mem_of_getElem? (i := 92) (by decide +kernel))
theorem kn_nest_4 : Cond.methodLinkNest RX5 31 yX8_init RX10 ∈ lw_tbl := List.mem_append_right _ (List.mem_of_getElem? (i := 110) (by decide +kernel))
theorem kn_nest_5 : Cond.methodLinkNest RX1 26 yX9_init RX10 ∈ lw_tbl := List.mem_append_right _ (List.mem_of_getElem? (i := 155) (by decide +kernel))
theorem kn_nest_6 : Cond.methodLinkNest RX1 38 yX2_init RX10 ∈ lw_tbl := List.mem_append_right _ (List.mem_of_getElem? (i := 205) (by decide +kernel))
theorem kn_nest_7 : Cond.methodLinkNest RX10 28 yX6_init RX10 ∈ lw_tbl := List.mem_append_right _ (List.mem_of_getElem? (i := 322) (by decide +kernel))
theorem kn_nest_8 : Cond.methodLinkNest RX5 113 yX10_hourOfDay RX10 ∈ lw_tbl := List.mem_append_right _ (List.mem_of_getElem? (i := 572) (by decide +kernel))
theorem kn_nest_9 : Cond.methodLinkNest RX1 119 yX10_hourOfDay RX10 ∈ lw_tbl := List.mem_append_right _ (List.mem_of_getElem? (i := 590) (by decide +kernel))
theorem kn_over_0 : Cond.arrayOver (.object RX1) ∈ lw_tbl := List.mem_append_right _ (List.mem_of_getElem? (i := 310) (by decide +kernel))
theorem kn_over_1 : Cond.arrayOver (.object RX2) ∈ lw_tbl := List.mem_append_right _ (List.mem_of_getElem? (i := 152) (by decide +kernel))
theorem kn_over_2 : Cond.arrayOver (.object RX3) ∈ lw_tbl := List.mem_append_right _ (List.mem_of_getElem? (i := 38) (by decide +kernel))
theorem kn_over_3 : Cond.arrayOver (.object RX4) ∈ lw_tbl := List.mem_append_right _ (List.mem_of_getElem? (i := 40) (by decide +kernel))
theorem kn_over_4 : Cond.arrayOver (.object RX8) ∈ lw_tbl := List.mem_append_right _ (List.mem_of_getElem? (i := 42) (by decide +kernel))
theorem kk_wsL {A : Array Value} {s : State} (hts : ∀ w ∈ lw_tbl, w.before A s = true) : ∀ w ∈ wsL_law, w.before A s = true := fun w hw => hts w (wsL_good w hw).1
theorem kk_nest {A : Array Value} {s : State} (hts : ∀ w ∈ lw_tbl, w.before A s = true) : ∀ q ∈ nestL, va_Nw (.methodLinkNest q.1 q.2.1 q.2.2.1 q.2.2.2) s := by
  intro q hq
  simp only [nestL, List.mem_cons, List.not_mem_nil, or_false] at hq
  rcases hq with rfl | rfl | rfl | rfl | rfl | rfl | rfl | rfl | rfl | rfl
  · exact va_Nw.of rfl (hts _ kn_nest_0)
  · exact va_Nw.of rfl (hts _ kn_nest_1)
  · exact va_Nw.of rfl (hts _ kn_nest_2)
  · exact va_Nw.of rfl (hts _ kn_nest_3)
  · exact va_Nw.of rfl (hts _ kn_nest_4)
  · exact va_Nw.of rfl (hts _ kn_nest_5)
  · exact va_Nw.of rfl (hts _ kn_nest_6)
  · exact va_Nw.of rfl (hts _ kn_nest_7)
  · exact va_Nw.of rfl (hts _ kn_nest_8)
  · exact va_Nw.of rfl (hts _ kn_nest_9)
theorem kk_over {A : Array Value} {s : State} (hts : ∀ w ∈ lw_tbl, w.before A s = true) : ∀ q ∈ overL, va_AO q s := by
  intro q hq
  simp only [overL, List.mem_cons, List.not_mem_nil, or_false] at hq
  rcases hq with rfl | rfl | rfl | rfl | rfl
  · exact va_AO.of (hts _ kn_over_0)
  · exact va_AO.of (hts _ kn_over_1)
  · exact va_AO.of (hts _ kn_over_2)
  · exact va_AO.of (hts _ kn_over_3)
  · exact va_AO.of (hts _ kn_over_4)
theorem kk_ref {C : String} {A : Array Value} {s : State} (h : (Cond.arrayOver (.object C)).before A s = true) : ∃ cA : ClassId, ArrOfT s cA (.object C) ∧ va_RA s cA (.object C) := by
  obtain ⟨comp, cA, kA, h1, -, h3, h4, h5⟩ := Cond.arrayOver_spec h
  exact ⟨cA, fun N z => ⟨(fun k h => by cases h), kA, h3, comp, h4⟩, kA, comp, h3, h4, h1, h5⟩
theorem kk_int {A : Array Value} {s : State} (h : (Cond.arrayClass .int).before A s = true) : ∃ cA : ClassId, ArrOfT s cA .int ∧ va_RA s cA .int := by
  obtain ⟨c, k, comp, h1, h2, h3⟩ := Cond.arrayClass_spec h
  exact ⟨c, fun N z => ⟨(fun k h => by cases h), k, h2, comp, h3⟩, h1⟩
theorem kk_char {A : Array Value} {s : State} (h : (Cond.arrayClass .char).before A s = true) : ∃ cA : ClassId, ArrOfT s cA .char ∧ va_RA s cA .char := by
  obtain ⟨c, k, comp, h1, h2, h3⟩ := Cond.arrayClass_spec h
  exact ⟨c, fun N z => ⟨(fun k h => by cases h), k, h2, comp, h3⟩, h1⟩
theorem kk_start {A : Array Value} {s : State} (hts0 : ∀ w ∈ lw_tbl, w.before A s = true) : ∃ g : mG, KK g s := by
  have hts := kk_wsL hts0
  obtain ⟨c0, i0, k0⟩ := u_known (C := RX0) (T := TX0) (N := 2) (n := 2) hts inlX0 (hts _ kw_1_18)
  obtain ⟨c1, i1, k1⟩ := u_known (C := RX1) (T := TX1) (N := 6) (n := 6) hts inlX1 (hts _ kw_1_13)
  obtain ⟨c2, i2, k2⟩ := u_known (C := RX2) (T := TX2) (N := 14) (n := 14) hts inlX2 (hts _ kw_2_17)
  obtain ⟨c3, i3, k3⟩ := u_known (C := RX3) (T := TX3) (N := 4) (n := 4) hts inlX3 (hts _ kw_3_5)
  obtain ⟨c4, i4, k4⟩ := u_known (C := RX4) (T := TX4) (N := 4) (n := 4) hts inlX4 (hts _ kw_3_7)
  obtain ⟨c5, i5, k5⟩ := u_known (C := RX5) (T := TX5) (N := 6) (n := 6) hts inlX5 (hts _ kw_2_6)
  obtain ⟨c6, i6, k6⟩ := u_known (C := RX6) (T := TX6) (N := 7) (n := 7) hts inlX6 (hts _ kw_1_22)
  obtain ⟨c7, i7, k7⟩ := u_known (C := RX7) (T := TX7) (N := 2) (n := 2) hts inlX7 (hts _ kw_3_15)
  obtain ⟨c8, i8, k8⟩ := u_known (C := RX8) (T := TX8) (N := 3) (n := 3) hts inlX8 (hts _ kw_3_9)
  obtain ⟨c9, i9, k9⟩ := u_known (C := RX9) (T := TX9) (N := 10) (n := 10) hts inlX9 (hts _ kw_2_12)
  obtain ⟨c10, i10, k10⟩ := u_known (C := RX10) (T := TX10) (N := 4) (n := 4) hts inlX10 (hts _ kw_1_1)
  obtain ⟨c11, i11, k11⟩ := u_known (C := RX11) (T := TX11) (N := 11) (n := 11) hts inlX11 (hts _ kw_1_4)
  obtain ⟨a0, p0, q0⟩ := kk_int (hts _ kw_4_2)
  obtain ⟨a1, p1, q1⟩ := kk_char (hts _ kw_4_23)
  obtain ⟨a2, p2, q2⟩ := kk_ref (hts0 _ kn_over_0)
  obtain ⟨a3, p3, q3⟩ := kk_ref (hts0 _ kn_over_1)
  obtain ⟨a4, p4, q4⟩ := kk_ref (hts0 _ kn_over_2)
  obtain ⟨a5, p5, q5⟩ := kk_ref (hts0 _ kn_over_3)
  obtain ⟨a6, p6, q6⟩ := kk_ref (hts0 _ kn_over_4)
  refine ⟨((fun k => if k = 0 then c0 else if k = 1 then c1 else if k = 2 then c2 else if k = 3 then c3 else if k = 4 then c4 else if k = 5 then c5 else if k = 6 then c6 else if k = 7 then c7 else if k = 8 then c8 else if k = 9 then c9 else if k = 10 then c10 else c11, fun k => if k = 0 then i0 else if k = 1 then i1 else if k = 2 then i2 else if k = 3 then i3 else if k = 4 then i4 else if k = 5 then i5 else if k = 6 then i6 else if k = 7 then i7 else if k = 8 then i8 else if k = 9 then i9 else if k = 10 then i10 else i11), fun k => if k = 0 then a0 else if k = 1 then a1 else if k = 2 then a2 else if k = 3 then a3 else if k = 4 then a4 else if k = 5 then a5 else a6), ⟨?_, ?_⟩, kk_nest hts0, kk_over hts0⟩
  · intro k q hq
    match k, hq with
    | 0, hq => cases hq; exact k0
    | 1, hq => cases hq; exact k1
    | 2, hq => cases hq; exact k2
    | 3, hq => cases hq; exact k3
    | 4, hq => cases hq; exact k4
    | 5, hq => cases hq; exact k5
    | 6, hq => cases hq; exact k6
    | 7, hq => cases hq; exact k7
    | 8, hq => cases hq; exact k8
    | 9, hq => cases hq; exact k9
    | 10, hq => cases hq; exact k10
    | 11, hq => cases hq; exact k11
    | k + 12, hq => simp [vwCl] at hq
  · intro k q hq
    match k, hq with
    | 0, hq => cases hq; exact ⟨p0, q0⟩
    | 1, hq => cases hq; exact ⟨p1, q1⟩
    | 2, hq => cases hq; exact ⟨p2, q2⟩
    | 3, hq => cases hq; exact ⟨p3, q3⟩
    | 4, hq => cases hq; exact ⟨p4, q4⟩
    | 5, hq => cases hq; exact ⟨p5, q5⟩
    | 6, hq => cases hq; exact ⟨p6, q6⟩
    | k + 7, hq => simp [tysG] at hq
