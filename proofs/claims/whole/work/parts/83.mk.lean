/-! ===== the constructor of the rotas ===== -/
/-- the templates of a House at h, by the cell's number -/
def hT (g : mG) (b h : Nat) : mT := fun q => if q = h then tHouse b h else if q = h + 1 then tRotas b h else if q = h + 2 then tRefs g 4 8 (fun i => b + (h + (5 + 2 * i))) else if q = h + 3 then tRefs g 5 3 (fun i => b + (h + (21 + 3 * i))) else if q = h + 4 then tRefs g 6 6 (fun i => b + (h + (30 + i)))
  else if q < h + 21 then (if (q - (h + 5)) % 2 = 0 then tPerson b q else tSpan) else if q < h + 30 then (if (q - (h + 21)) % 3 = 0 then tRegion b q else if (q - (h + 21)) % 3 = 1 then tSpan else tRota g) else if q < h + 36 then tStand else if q = h + 36 then tRefs g 3 8 (fun i => b + (h + (38 + i))) else if q = h + 37 then tTotals else tIncident
section HT
variable {g : mG} {b h i : Nat}
theorem hT_0 : hT g b h h = tHouse b h := if_pos rfl
theorem hT_1 : hT g b h (h + 1) = tRotas b h := by
  unfold hT
  rw [if_neg (by omega), if_pos rfl]
theorem hT_2 : hT g b h (h + 2) = tRefs g 4 8 (fun i => b + (h + (5 + 2 * i))) := by
  unfold hT
  rw [if_neg (by omega), if_neg (by omega), if_pos rfl]
theorem hT_3 : hT g b h (h + 3) = tRefs g 5 3 (fun i => b + (h + (21 + 3 * i))) := by
  unfold hT
  rw [if_neg (by omega), if_neg (by omega), if_neg (by omega), if_pos rfl]
theorem hT_4 : hT g b h (h + 4) = tRefs g 6 6 (fun i => b + (h + (30 + i))) := by
  unfold hT
  rw [if_neg (by omega), if_neg (by omega), if_neg (by omega), if_neg (by omega), if_pos rfl]
theorem hT_p (hi : i < 8) : hT g b h (h + (5 + 2 * i)) = tPerson b (h + (5 + 2 * i)) := by
  unfold hT
  rw [if_neg (by omega), if_neg (by omega), if_neg (by omega), if_neg (by omega), if_neg (by omega), if_pos (by omega), if_pos (by omega)]
theorem hT_ps (hi : i < 8) : hT g b h (h + (5 + 2 * i) + 1) = tSpan := by
  unfold hT
  rw [if_neg (by omega), if_neg (by omega), if_neg (by omega), if_neg (by omega), if_neg (by omega), if_pos (by omega), if_neg (by omega)]
theorem hT_r (hi : i < 3) : hT g b h (h + (21 + 3 * i)) = tRegion b (h + (21 + 3 * i)) := by
  unfold hT
  rw [if_neg (by omega), if_neg (by omega), if_neg (by omega), if_neg (by omega), if_neg (by omega), if_neg (by omega), if_pos (by omega), if_pos (by omega)]
theorem hT_rs (hi : i < 3) : hT g b h (h + (21 + 3 * i) + 1) = tSpan := by
  unfold hT
  rw [if_neg (by omega), if_neg (by omega), if_neg (by omega), if_neg (by omega), if_neg (by omega), if_neg (by omega), if_pos (by omega), if_neg (by omega), if_pos (by omega)]
theorem hT_rr (hi : i < 3) : hT g b h (h + (21 + 3 * i) + 2) = tRota g := by
  unfold hT
  rw [if_neg (by omega), if_neg (by omega), if_neg (by omega), if_neg (by omega), if_neg (by omega), if_neg (by omega), if_pos (by omega), if_neg (by omega), if_neg (by omega)]
theorem hT_s (hi : i < 6) : hT g b h (h + (30 + i)) = tStand := by
  unfold hT
  rw [if_neg (by omega), if_neg (by omega), if_neg (by omega), if_neg (by omega), if_neg (by omega), if_neg (by omega), if_neg (by omega), if_pos (by omega)]
theorem hT_36 : hT g b h (h + 36) = tRefs g 3 8 (fun i => b + (h + (38 + i))) := by
  unfold hT
  rw [if_neg (by omega), if_neg (by omega), if_neg (by omega), if_neg (by omega), if_neg (by omega), if_neg (by omega), if_neg (by omega), if_neg (by omega), if_pos rfl]
theorem hT_37 : hT g b h (h + 37) = tTotals := by
  unfold hT
  rw [if_neg (by omega), if_neg (by omega), if_neg (by omega), if_neg (by omega), if_neg (by omega), if_neg (by omega), if_neg (by omega), if_neg (by omega), if_neg (by omega), if_pos rfl]
theorem hT_i (hi : i < 8) : hT g b h (h + (38 + i)) = tIncident := by
  unfold hT
  rw [if_neg (by omega), if_neg (by omega), if_neg (by omega), if_neg (by omega), if_neg (by omega), if_neg (by omega), if_neg (by omega), if_neg (by omega), if_neg (by omega), if_neg (by omega)]
theorem hz_1 : hT g b h (h + 1) (fun _ => 0) = .inr (5, [.ref (b + (h + 2)), .ref (b + (h + 3)), .ref (b + (h + 4)), .int 0, .int 0, .int 0]) := by rw [hT_1]
theorem hz_2 : hT g b h (h + 2) (fun _ => 0) = tRefs g 4 8 (fun i => b + (h + (5 + 2 * i))) (fun _ => 0) := by rw [hT_2]
theorem hz_3 : hT g b h (h + 3) (fun _ => 0) = tRefs g 5 3 (fun i => b + (h + (21 + 3 * i))) (fun _ => 0) := by rw [hT_3]
theorem hz_4 : hT g b h (h + 4) (fun _ => 0) = tRefs g 6 6 (fun i => b + (h + (30 + i))) (fun _ => 0) := by rw [hT_4]
theorem hz_p (hi : i < 8) : hT g b h (h + (5 + 2 * i)) (fun _ => 0) = .inr (3, [.ref (b + (h + (5 + 2 * i) + 1)), .int 0, .int 0, .int 0]) := by rw [hT_p hi]
theorem hz_ps (hi : i < 8) : hT g b h (h + (5 + 2 * i) + 1) (fun _ => 0) = .inr (7, [.int 0, .int 0]) := by rw [hT_ps hi]
theorem hz_r (hi : i < 3) : hT g b h (h + (21 + 3 * i)) (fun _ => 0) = .inr (4, [.ref (b + (h + (21 + 3 * i) + 1)), .ref (b + (h + (21 + 3 * i) + 2)), .int 0, .int 0]) := by rw [hT_r hi]
theorem hz_rs (hi : i < 3) : hT g b h (h + (21 + 3 * i) + 1) (fun _ => 0) = .inr (7, [.int 0, .int 0]) := by rw [hT_rs hi]
theorem hz_rr (hi : i < 3) : hT g b h (h + (21 + 3 * i) + 2) (fun _ => 0) = .inl (g.2 0, 5, .inl (fun _ => 0)) := by rw [hT_rr hi]
theorem hz_s (hi : i < 6) : hT g b h (h + (30 + i)) (fun _ => 0) = .inr (8, [.int 0, .int 0, .int 0]) := by rw [hT_s hi]
theorem hz_36 : hT g b h (h + 36) (fun _ => 0) = tRefs g 3 8 (fun i => b + (h + (38 + i))) (fun _ => 0) := by rw [hT_36]
theorem hz_37 : hT g b h (h + 37) (fun _ => 0) = .inr (9, [.int 0, .int 0, .int 0, .int 0, .int 0, .int 0, .int 0, .int 0, .int 0, .int 0]) := by rw [hT_37]
theorem hz_i (hi : i < 8) : hT g b h (h + (38 + i)) (fun _ => 0) = .inr (2, [.int 0, .int 0, .int 0, .int 0, .int 0, .int 0, .int 0, .int 0, .int 0, .int 0, .int 0, .int 0, .int 0, .int 0]) := by rw [hT_i hi]
end HT
def stT (g : mG) (b h : Nat) (E : Nat → va_E) (i1 i2 i3 : Nat) : Nat → va_E := eS (eS (eS (bE E (h + 1) (fun q => hT g b h q (fun _ => 0))) (h + 2) (aQ g 4 8 i1 (fun j => b + (h + (5 + 2 * j))))) (h + 3) (aQ g 5 3 i2 (fun j => b + (h + (21 + 3 * j))))) (h + 4) (aQ g 6 6 i3 (fun j => b + (h + (30 + j))))
set_option maxRecDepth 100000 in
set_option maxHeartbeats 4000000 in
theorem k_X5_init {g : mG} {l : Launch} {b : Nat} (h : Nat) : CA g l b yX5_init cX5_init 2 rm_X5_init (h + 1) 35 (.inr (5, [.null, .null, .null, .int 0, .int 0, .int 0])) (fun q => hT g b h q (fun _ => 0)) := by
  refine CA.intro [some (.ref (b + (h + 1))), none] (by decide +kernel) rfl rfl rfl rfl ?_
  intro E p e s m args below meth c Q C hE
  refine a_nn (n1 := h + 2) (by omega) ?_
  refine a_aload_n C dX5_init_0 rfl ?_
  refine a_objInit C kw_2_22 dX5_init_1 rfl rfl ?_
  refine a_aload_n C dX5_init_4 rfl ?_
  refine a_bipush C dX5_init_5 bp_8 ?_
  refine a_newq C (i := 4) (N := 8) kw_2_23 (by decide +kernel) rfl (by decide +kernel) rfl rfl rfl dX5_init_7 ?_
  refine a_nn (n1 := h + 3) (by omega) ?_
  refine a_pfF C (k := h + 1) (ci := 5) (fs := [.null, .null, .null, .int 0, .int 0, .int 0]) (fs1 := [.ref (b + (h + 2)), .null, .null, .int 0, .int 0, .int 0]) inlX5 tyX5 tyX5_ok nmX5 rfl 0 (by decide) kw_3_0 rfl rfl rfl rfl rfl dX5_init_10 (by omega) (by simp (disch := omega) only [eS_r, eS_o, bE_l, bE_r, stT, hz_1, tmX3_0, tmX4_0]) (Nat.le_of_ble_eq_true rfl) rfl ?_
  refine a_aload_n C dX5_init_13 rfl ?_
  refine a_iconst C dX5_init_14 ic_3 ?_
  refine a_newq C (i := 5) (N := 3) kw_3_1 (by decide +kernel) rfl (by decide +kernel) rfl rfl rfl dX5_init_15 ?_
  refine a_nn (n1 := h + 4) (by omega) ?_
  refine a_pfF C (k := h + 1) (ci := 5) (fs := [.ref (b + (h + 2)), .null, .null, .int 0, .int 0, .int 0]) (fs1 := [.ref (b + (h + 2)), .ref (b + (h + 3)), .null, .int 0, .int 0, .int 0]) inlX5 tyX5 tyX5_ok nmX5 rfl 1 (by decide) kw_3_2 rfl rfl rfl rfl rfl dX5_init_18 (by omega) (by simp (disch := omega) only [eS_r, eS_o, bE_l, bE_r, stT, hz_1, tmX3_0, tmX4_0]) (Nat.le_of_ble_eq_true rfl) rfl ?_
  refine a_aload_n C dX5_init_21 rfl ?_
  refine a_bipush C dX5_init_22 bp_6 ?_
  refine a_newq C (i := 6) (N := 6) kw_3_3 (by decide +kernel) rfl (by decide +kernel) rfl rfl rfl dX5_init_24 ?_
  refine a_nn (n1 := h + 5) (by omega) ?_
  refine a_pfF C (k := h + 1) (ci := 5) (fs := [.ref (b + (h + 2)), .ref (b + (h + 3)), .null, .int 0, .int 0, .int 0]) (fs1 := [.ref (b + (h + 2)), .ref (b + (h + 3)), .ref (b + (h + 4)), .int 0, .int 0, .int 0]) inlX5 tyX5 tyX5_ok nmX5 rfl 2 (by decide) kw_3_4 rfl rfl rfl rfl rfl dX5_init_27 (by omega) (by simp (disch := omega) only [eS_r, eS_o, bE_l, bE_r, stT, hz_1, tmX3_0, tmX4_0]) (Nat.le_of_ble_eq_true rfl) rfl ?_
  refine a_iconst C dX5_init_30 ic_0 ?_
  refine a_istore_n C dX5_init_31 rfl rfl ?_
  have loop_32 : ∀ (r i : Nat), i + r = 8 → WA g p l e rm_X5_init s m args below meth c Q b (h + (5 + 2 * i)) (stT g b h E i 0 0) (3 + 2 * i) (17 + 6 * i) 32 [some (.ref (b + (h + 1))), some (.int (nI i))] [] := by
    intro r
    induction r with
    | zero =>
      intro i hi
      obtain rfl : i = 8 := by omega
      refine a_iload_n C dX5_init_32 rfl ?_
      refine a_aload_n C dX5_init_33 rfl ?_
      refine a_get C (k := h + 1) (ci := 5) (fs := [.ref (b + (h + 2)), .ref (b + (h + 3)), .ref (b + (h + 4)), .int 0, .int 0, .int 0]) inlX5 rfl 0 (by decide) kw_3_0 rfl dX5_init_34 (by omega) (by simp (disch := omega) only [eS_r, eS_o, bE_l, bE_r, stT, hz_1, tmX3_0, tmX4_0]) rfl ?_
      refine a_alen C (k := h + 2) (t0 := 4) (x := (8, .inr (.inr (.inr (.inr (qF 8 (fun j => b + (h + (5 + 2 * j))))))))) (y := nI 8) dX5_init_37 (by omega) (by simp (disch := omega) only [eS_r, eS_o, bE_l, bE_r, stT, hz_1, tmX3_0, tmX4_0]) rfl rfl ?_
      refine a_icmp_ge (tgt := 60) C dX5_init_38 rfl (fun c_38 => ?_) (fun c_38 => ?_)
      · skip
        refine a_iconst C dX5_init_60 ic_0 ?_
        refine a_istore_n C dX5_init_61 rfl rfl ?_
        have loop_62 : ∀ (r i : Nat), i + r = 3 → WA g p l e rm_X5_init s m args below meth c Q b (h + (21 + 3 * i)) (stT g b h E 8 i 0) (19 + 3 * i) (65 + 11 * i) 62 [some (.ref (b + (h + 1))), some (.int (nI i))] [] := by
          intro r
          induction r with
          | zero =>
            intro i hi
            obtain rfl : i = 3 := by omega
            refine a_iload_n C dX5_init_62 rfl ?_
            refine a_aload_n C dX5_init_63 rfl ?_
            refine a_get C (k := h + 1) (ci := 5) (fs := [.ref (b + (h + 2)), .ref (b + (h + 3)), .ref (b + (h + 4)), .int 0, .int 0, .int 0]) inlX5 rfl 1 (by decide) kw_3_2 rfl dX5_init_64 (by omega) (by simp (disch := omega) only [eS_r, eS_o, bE_l, bE_r, stT, hz_1, tmX3_0, tmX4_0]) rfl ?_
            refine a_alen C (k := h + 3) (t0 := 5) (x := (3, .inr (.inr (.inr (.inr (qF 3 (fun j => b + (h + (21 + 3 * j))))))))) (y := nI 3) dX5_init_67 (by omega) (by simp (disch := omega) only [eS_r, eS_o, bE_l, bE_r, stT, hz_1, tmX3_0, tmX4_0]) rfl rfl ?_
            refine a_icmp_ge (tgt := 90) C dX5_init_68 rfl (fun c_68 => ?_) (fun c_68 => ?_)
            · skip
              refine a_iconst C dX5_init_90 ic_0 ?_
              refine a_istore_n C dX5_init_91 rfl rfl ?_
              have loop_92 : ∀ (r i : Nat), i + r = 6 → WA g p l e rm_X5_init s m args below meth c Q b (h + (30 + i)) (stT g b h E 8 3 i) (28 + 1 * i) (98 + 3 * i) 92 [some (.ref (b + (h + 1))), some (.int (nI i))] [] := by
                intro r
                induction r with
                | zero =>
                  intro i hi
                  obtain rfl : i = 6 := by omega
                  refine a_iload_n C dX5_init_92 rfl ?_
                  refine a_aload_n C dX5_init_93 rfl ?_
                  refine a_get C (k := h + 1) (ci := 5) (fs := [.ref (b + (h + 2)), .ref (b + (h + 3)), .ref (b + (h + 4)), .int 0, .int 0, .int 0]) inlX5 rfl 2 (by decide) kw_3_4 rfl dX5_init_94 (by omega) (by simp (disch := omega) only [eS_r, eS_o, bE_l, bE_r, stT, hz_1, tmX3_0, tmX4_0]) rfl ?_
                  refine a_alen C (k := h + 4) (t0 := 6) (x := (6, .inr (.inr (.inr (.inr (qF 6 (fun j => b + (h + (30 + j))))))))) (y := nI 6) dX5_init_97 (by omega) (by simp (disch := omega) only [eS_r, eS_o, bE_l, bE_r, stT, hz_1, tmX3_0, tmX4_0]) rfl rfl ?_
                  refine a_icmp_ge (tgt := 120) C dX5_init_98 rfl (fun c_98 => ?_) (fun c_98 => ?_)
                  · skip
                    refine a_cvA (E1 := bE E (h + 1) (fun q => hT g b h q (fun _ => 0))) (fun q hq => ?_) (hE _ _ _ _ _ _ dX5_init_120 (by omega) rfl rfl (fun _ _ => rfl))
                    by_cases z_0 : q < h + 1
                    · refine va_cg ?_
                      simp (disch := omega) only [eS_r, eS_o, bE_l, bE_r, stT]
                    by_cases z_1 : q = h + 2
                    · subst z_1
                      refine va_cq (g := g) (t := 4) (sz := 8) (i := 8) (F := (fun j => b + (h + (5 + 2 * j)))) rfl ?_ ?_
                      · simp (disch := omega) only [eS_r, eS_o, bE_l, bE_r, stT]
                      · simp (disch := omega) only [eS_r, eS_o, bE_l, bE_r, hz_2]
                    by_cases z_2 : q = h + 3
                    · subst z_2
                      refine va_cq (g := g) (t := 5) (sz := 3) (i := 3) (F := (fun j => b + (h + (21 + 3 * j)))) rfl ?_ ?_
                      · simp (disch := omega) only [eS_r, eS_o, bE_l, bE_r, stT]
                      · simp (disch := omega) only [eS_r, eS_o, bE_l, bE_r, hz_3]
                    by_cases z_3 : q = h + 4
                    · subst z_3
                      refine va_cq (g := g) (t := 6) (sz := 6) (i := 6) (F := (fun j => b + (h + (30 + j)))) rfl ?_ ?_
                      · simp (disch := omega) only [eS_r, eS_o, bE_l, bE_r, stT]
                      · simp (disch := omega) only [eS_r, eS_o, bE_l, bE_r, hz_4]
                    refine va_cg ?_
                    simp (disch := omega) only [eS_r, eS_o, bE_l, bE_r, stT]
                  · exact absurd ((na_lt rfl rfl (by omega) (by omega)).mp c_98) (by omega)
                | succ r ih_92 =>
                  intro i hi
                  refine a_iload_n C dX5_init_92 rfl ?_
                  refine a_aload_n C dX5_init_93 rfl ?_
                  refine a_get C (k := h + 1) (ci := 5) (fs := [.ref (b + (h + 2)), .ref (b + (h + 3)), .ref (b + (h + 4)), .int 0, .int 0, .int 0]) inlX5 rfl 2 (by decide) kw_3_4 rfl dX5_init_94 (by omega) (by simp (disch := omega) only [eS_r, eS_o, bE_l, bE_r, stT, hz_1, tmX3_0, tmX4_0]) rfl ?_
                  refine a_alen C (k := h + 4) (t0 := 6) (x := (6, .inr (.inr (.inr (.inr (qF i (fun j => b + (h + (30 + j))))))))) (y := nI 6) dX5_init_97 (by omega) (by simp (disch := omega) only [eS_r, eS_o, bE_l, bE_r, stT, hz_1, tmX3_0, tmX4_0]) rfl rfl ?_
                  refine a_icmp_ge (tgt := 120) C dX5_init_98 rfl (fun c_98 => ?_) (fun c_98 => ?_)
                  · exact absurd ((na_lt rfl rfl (by omega) (by omega)).mpr (by omega)) c_98
                  · skip
                    refine a_aload_n C dX5_init_101 rfl ?_
                    refine a_get C (k := h + 1) (ci := 5) (fs := [.ref (b + (h + 2)), .ref (b + (h + 3)), .ref (b + (h + 4)), .int 0, .int 0, .int 0]) inlX5 rfl 2 (by decide) kw_3_4 rfl dX5_init_102 (by omega) (by simp (disch := omega) only [eS_r, eS_o, bE_l, bE_r, stT, hz_1, tmX3_0, tmX4_0]) rfl ?_
                    refine a_iload_n C dX5_init_105 rfl ?_
                    refine a_new C (ci := 8) (fs := [.int 0, .int 0, .int 0]) inlX8 tyX8 tyX8_ok kw_3_3 kw_3_9 kw_3_10 rfl (fun j hj => match j, hj with | 0, _ => rfl | 1, _ => rfl | 2, _ => rfl | (j + 3), h => absurd h (by omega)) (Nat.ble_eq_true_of_le (by show 28 + 1 * i + 1 ≤ 34; omega)) (Nat.ble_eq_true_of_le (by show 98 + 3 * i + 3 ≤ 116; omega)) dX5_init_106 ?_
                    refine a_dup C dX5_init_109 rfl ?_
                    refine a_callIN (host := RX10) C (k := h + (30 + i)) (List.mem_of_getElem? (i := 4) rfl) kw_4_4 kw_3_10 kw_4_5 ⟨by decide +kernel, by decide +kernel⟩ (by decide +kernel) rfl dX5_init_110 (k_X8_init (h + (30 + i))) rfl (by simp (disch := omega) only [eS_r, eS_o, bE_l, bE_r, stT, hz_1, tmX3_0, tmX4_0]) rfl rfl rfl (Nat.ble_eq_true_of_le (by show 28 + 1 * i + 1 + 0 ≤ 34; omega)) (Nat.ble_eq_true_of_le (by show 98 + 3 * i + 3 + 0 ≤ 116; omega)) rfl ?_
                    refine a_nn (n1 := h + (30 + i) + 1) (by omega) ?_
                    refine a_astq C (k := h + 4) (t0 := 6) (qk := h + (30 + i)) (ci := 8) (vs := [.int 0, .int 0, .int 0]) (f := (qF i (fun j => b + (h + (30 + j))))) (sz := 6) (j := i) dX5_init_113 (by omega) (by simp (disch := omega) only [eS_r, eS_o, bE_l, bE_r, stT, hz_1, tmX3_0, tmX4_0]) rfl (by omega) (by simp (disch := omega) only [eS_r, eS_o, bE_l, bE_r, stT, hz_1, tmX3_0, tmX4_0]) rfl rfl (by omega) (by decide +kernel) ?_
                    refine a_iinc C dX5_init_114 rfl (nI_inc _) rfl ?_
                    refine a_goto (tgt := 92) C dX5_init_117 rfl ?_
                    refine a_cv (n1 := h + (30 + (i + 1))) (E1 := stT g b h E 8 3 (i + 1)) (kc1 := 28 + 1 * (i + 1)) (ks1 := 98 + 3 * (i + 1)) (by omega) (by show 28 + 1 * i + 1 + 0 = 28 + 1 * (i + 1); omega) (by show 98 + 3 * i + 3 + 0 = 98 + 3 * (i + 1); omega) (fun q hq => ?_) (ih_92 (i + 1) (by omega))
                    by_cases z_0 : q < h + 1
                    · simp (disch := omega) only [eS_r, eS_o, bE_l, bE_r, stT]
                    by_cases z_1 : q = h + 2
                    · subst z_1
                      simp (disch := omega) only [eS_r, eS_o, bE_l, bE_r, stT]
                    by_cases z_2 : q = h + 3
                    · subst z_2
                      simp (disch := omega) only [eS_r, eS_o, bE_l, bE_r, stT]
                    by_cases z_3 : q = h + 4
                    · subst z_3
                      simp (disch := omega) only [eS_r, eS_o, bE_l, bE_r, stT]
                      exact congrArg (fun f => (Sum.inl (g.2 6, 6, .inr (.inr (.inr (.inr f)))) : va_E)) (qF_up rfl)
                    by_cases z_4 : q < h + (30 + i)
                    · simp (disch := omega) only [eS_r, eS_o, bE_l, bE_r, stT]
                    obtain rfl : q = h + (30 + i) := by omega
                    simp (disch := omega) only [eS_r, eS_o, bE_l, bE_r, stT]
                    exact (hz_s (by omega)).symm
              refine a_cv (n1 := h + (30 + 0)) (E1 := stT g b h E 8 3 0) (kc1 := 28 + 1 * 0) (ks1 := 98 + 3 * 0) (by omega) (by show 19 + 3 * 3 = 28 + 1 * 0; omega) (by show 65 + 11 * 3 = 98 + 3 * 0; omega) (fun q hq => ?_) (loop_92 6 0 rfl)
              rfl
            · exact absurd ((na_lt rfl rfl (by omega) (by omega)).mp c_68) (by omega)
          | succ r ih_62 =>
            intro i hi
            refine a_iload_n C dX5_init_62 rfl ?_
            refine a_aload_n C dX5_init_63 rfl ?_
            refine a_get C (k := h + 1) (ci := 5) (fs := [.ref (b + (h + 2)), .ref (b + (h + 3)), .ref (b + (h + 4)), .int 0, .int 0, .int 0]) inlX5 rfl 1 (by decide) kw_3_2 rfl dX5_init_64 (by omega) (by simp (disch := omega) only [eS_r, eS_o, bE_l, bE_r, stT, hz_1, tmX3_0, tmX4_0]) rfl ?_
            refine a_alen C (k := h + 3) (t0 := 5) (x := (3, .inr (.inr (.inr (.inr (qF i (fun j => b + (h + (21 + 3 * j))))))))) (y := nI 3) dX5_init_67 (by omega) (by simp (disch := omega) only [eS_r, eS_o, bE_l, bE_r, stT, hz_1, tmX3_0, tmX4_0]) rfl rfl ?_
            refine a_icmp_ge (tgt := 90) C dX5_init_68 rfl (fun c_68 => ?_) (fun c_68 => ?_)
            · exact absurd ((na_lt rfl rfl (by omega) (by omega)).mpr (by omega)) c_68
            · skip
              refine a_aload_n C dX5_init_71 rfl ?_
              refine a_get C (k := h + 1) (ci := 5) (fs := [.ref (b + (h + 2)), .ref (b + (h + 3)), .ref (b + (h + 4)), .int 0, .int 0, .int 0]) inlX5 rfl 1 (by decide) kw_3_2 rfl dX5_init_72 (by omega) (by simp (disch := omega) only [eS_r, eS_o, bE_l, bE_r, stT, hz_1, tmX3_0, tmX4_0]) rfl ?_
              refine a_iload_n C dX5_init_75 rfl ?_
              refine a_new C (ci := 4) (fs := [.null, .null, .int 0, .int 0]) inlX4 tyX4 tyX4_ok kw_3_1 kw_3_7 kw_3_8 rfl (fun j hj => match j, hj with | 0, _ => rfl | 1, _ => rfl | 2, _ => rfl | 3, _ => rfl | (j + 4), h => absurd h (by omega)) (Nat.ble_eq_true_of_le (by show 19 + 3 * i + 1 ≤ 34; omega)) (Nat.ble_eq_true_of_le (by show 65 + 11 * i + 4 ≤ 116; omega)) dX5_init_76 ?_
              refine a_dup C dX5_init_79 rfl ?_
              refine a_callIN (host := RX10) C (k := h + (21 + 3 * i)) (List.mem_of_getElem? (i := 2) rfl) kw_3_21 kw_3_8 kw_3_22 ⟨by decide +kernel, by decide +kernel⟩ (by decide +kernel) rfl dX5_init_80 (k_X4_init (h + (21 + 3 * i))) rfl (by simp (disch := omega) only [eS_r, eS_o, bE_l, bE_r, stT, hz_1, tmX3_0, tmX4_0]) rfl rfl rfl (Nat.ble_eq_true_of_le (by show 19 + 3 * i + 1 + 2 ≤ 34; omega)) (Nat.ble_eq_true_of_le (by show 65 + 11 * i + 4 + 7 ≤ 116; omega)) rfl ?_
              refine a_nn (n1 := h + (21 + 3 * i) + 3) (by omega) ?_
              refine a_astq C (k := h + 3) (t0 := 5) (qk := h + (21 + 3 * i)) (ci := 4) (vs := [.ref (b + (h + (21 + 3 * i) + 1)), .ref (b + (h + (21 + 3 * i) + 2)), .int 0, .int 0]) (f := (qF i (fun j => b + (h + (21 + 3 * j))))) (sz := 3) (j := i) dX5_init_83 (by omega) (by simp (disch := omega) only [eS_r, eS_o, bE_l, bE_r, stT, hz_1, tmX3_0, tmX4_0]) rfl (by omega) (by simp (disch := omega) only [eS_r, eS_o, bE_l, bE_r, stT, hz_1, tmX3_0, tmX4_0]) rfl rfl (by omega) (by decide +kernel) ?_
              refine a_iinc C dX5_init_84 rfl (nI_inc _) rfl ?_
              refine a_goto (tgt := 62) C dX5_init_87 rfl ?_
              refine a_cv (n1 := h + (21 + 3 * (i + 1))) (E1 := stT g b h E 8 (i + 1) 0) (kc1 := 19 + 3 * (i + 1)) (ks1 := 65 + 11 * (i + 1)) (by omega) (by show 19 + 3 * i + 1 + 2 = 19 + 3 * (i + 1); omega) (by show 65 + 11 * i + 4 + 7 = 65 + 11 * (i + 1); omega) (fun q hq => ?_) (ih_62 (i + 1) (by omega))
              by_cases z_0 : q < h + 1
              · simp (disch := omega) only [eS_r, eS_o, bE_l, bE_r, stT]
              by_cases z_1 : q = h + 2
              · subst z_1
                simp (disch := omega) only [eS_r, eS_o, bE_l, bE_r, stT]
              by_cases z_2 : q = h + 3
              · subst z_2
                simp (disch := omega) only [eS_r, eS_o, bE_l, bE_r, stT]
                exact congrArg (fun f => (Sum.inl (g.2 5, 3, .inr (.inr (.inr (.inr f)))) : va_E)) (qF_up rfl)
              by_cases z_3 : q = h + 4
              · subst z_3
                simp (disch := omega) only [eS_r, eS_o, bE_l, bE_r, stT]
              by_cases z_4 : q < h + (21 + 3 * i)
              · simp (disch := omega) only [eS_r, eS_o, bE_l, bE_r, stT]
              by_cases z_5 : q = h + (21 + 3 * i)
              · subst z_5
                simp (disch := omega) only [eS_r, eS_o, bE_l, bE_r, stT, tmX4_0]
                exact (hz_r (by omega)).symm
              by_cases z_6 : q = h + (21 + 3 * i) + 1
              · subst z_6
                simp (disch := omega) only [eS_r, eS_o, bE_l, bE_r, stT, tmX4_1]
                exact (hz_rs (by omega)).symm
              obtain rfl : q = h + (21 + 3 * i) + 2 := by omega
              simp (disch := omega) only [eS_r, eS_o, bE_l, bE_r, stT, tmX4_2]
              exact (hz_rr (by omega)).symm
        refine a_cv (n1 := h + (21 + 3 * 0)) (E1 := stT g b h E 8 0 0) (kc1 := 19 + 3 * 0) (ks1 := 65 + 11 * 0) (by omega) (by show 3 + 2 * 8 = 19 + 3 * 0; omega) (by show 17 + 6 * 8 = 65 + 11 * 0; omega) (fun q hq => ?_) (loop_62 3 0 rfl)
        rfl
      · exact absurd ((na_lt rfl rfl (by omega) (by omega)).mp c_38) (by omega)
    | succ r ih_32 =>
      intro i hi
      refine a_iload_n C dX5_init_32 rfl ?_
      refine a_aload_n C dX5_init_33 rfl ?_
      refine a_get C (k := h + 1) (ci := 5) (fs := [.ref (b + (h + 2)), .ref (b + (h + 3)), .ref (b + (h + 4)), .int 0, .int 0, .int 0]) inlX5 rfl 0 (by decide) kw_3_0 rfl dX5_init_34 (by omega) (by simp (disch := omega) only [eS_r, eS_o, bE_l, bE_r, stT, hz_1, tmX3_0, tmX4_0]) rfl ?_
      refine a_alen C (k := h + 2) (t0 := 4) (x := (8, .inr (.inr (.inr (.inr (qF i (fun j => b + (h + (5 + 2 * j))))))))) (y := nI 8) dX5_init_37 (by omega) (by simp (disch := omega) only [eS_r, eS_o, bE_l, bE_r, stT, hz_1, tmX3_0, tmX4_0]) rfl rfl ?_
      refine a_icmp_ge (tgt := 60) C dX5_init_38 rfl (fun c_38 => ?_) (fun c_38 => ?_)
      · exact absurd ((na_lt rfl rfl (by omega) (by omega)).mpr (by omega)) c_38
      · skip
        refine a_aload_n C dX5_init_41 rfl ?_
        refine a_get C (k := h + 1) (ci := 5) (fs := [.ref (b + (h + 2)), .ref (b + (h + 3)), .ref (b + (h + 4)), .int 0, .int 0, .int 0]) inlX5 rfl 0 (by decide) kw_3_0 rfl dX5_init_42 (by omega) (by simp (disch := omega) only [eS_r, eS_o, bE_l, bE_r, stT, hz_1, tmX3_0, tmX4_0]) rfl ?_
        refine a_iload_n C dX5_init_45 rfl ?_
        refine a_new C (ci := 3) (fs := [.null, .int 0, .int 0, .int 0]) inlX3 tyX3 tyX3_ok kw_2_23 kw_3_5 kw_3_6 rfl (fun j hj => match j, hj with | 0, _ => rfl | 1, _ => rfl | 2, _ => rfl | 3, _ => rfl | (j + 4), h => absurd h (by omega)) (Nat.ble_eq_true_of_le (by show 3 + 2 * i + 1 ≤ 34; omega)) (Nat.ble_eq_true_of_le (by show 17 + 6 * i + 4 ≤ 116; omega)) dX5_init_46 ?_
        refine a_dup C dX5_init_49 rfl ?_
        refine a_callIN (host := RX10) C (k := h + (5 + 2 * i)) (List.mem_of_getElem? (i := 0) rfl) kw_3_11 kw_3_6 kw_3_12 ⟨by decide +kernel, by decide +kernel⟩ (by decide +kernel) rfl dX5_init_50 (k_X3_init (h + (5 + 2 * i))) rfl (by simp (disch := omega) only [eS_r, eS_o, bE_l, bE_r, stT, hz_1, tmX3_0, tmX4_0]) rfl rfl rfl (Nat.ble_eq_true_of_le (by show 3 + 2 * i + 1 + 1 ≤ 34; omega)) (Nat.ble_eq_true_of_le (by show 17 + 6 * i + 4 + 2 ≤ 116; omega)) rfl ?_
        refine a_nn (n1 := h + (5 + 2 * i) + 2) (by omega) ?_
        refine a_astq C (k := h + 2) (t0 := 4) (qk := h + (5 + 2 * i)) (ci := 3) (vs := [.ref (b + (h + (5 + 2 * i) + 1)), .int 0, .int 0, .int 0]) (f := (qF i (fun j => b + (h + (5 + 2 * j))))) (sz := 8) (j := i) dX5_init_53 (by omega) (by simp (disch := omega) only [eS_r, eS_o, bE_l, bE_r, stT, hz_1, tmX3_0, tmX4_0]) rfl (by omega) (by simp (disch := omega) only [eS_r, eS_o, bE_l, bE_r, stT, hz_1, tmX3_0, tmX4_0]) rfl rfl (by omega) (by decide +kernel) ?_
        refine a_iinc C dX5_init_54 rfl (nI_inc _) rfl ?_
        refine a_goto (tgt := 32) C dX5_init_57 rfl ?_
        refine a_cv (n1 := h + (5 + 2 * (i + 1))) (E1 := stT g b h E (i + 1) 0 0) (kc1 := 3 + 2 * (i + 1)) (ks1 := 17 + 6 * (i + 1)) (by omega) (by show 3 + 2 * i + 1 + 1 = 3 + 2 * (i + 1); omega) (by show 17 + 6 * i + 4 + 2 = 17 + 6 * (i + 1); omega) (fun q hq => ?_) (ih_32 (i + 1) (by omega))
        by_cases z_0 : q < h + 1
        · simp (disch := omega) only [eS_r, eS_o, bE_l, bE_r, stT]
        by_cases z_1 : q = h + 2
        · subst z_1
          simp (disch := omega) only [eS_r, eS_o, bE_l, bE_r, stT]
          exact congrArg (fun f => (Sum.inl (g.2 4, 8, .inr (.inr (.inr (.inr f)))) : va_E)) (qF_up rfl)
        by_cases z_2 : q = h + 3
        · subst z_2
          simp (disch := omega) only [eS_r, eS_o, bE_l, bE_r, stT]
        by_cases z_3 : q = h + 4
        · subst z_3
          simp (disch := omega) only [eS_r, eS_o, bE_l, bE_r, stT]
        by_cases z_4 : q < h + (5 + 2 * i)
        · simp (disch := omega) only [eS_r, eS_o, bE_l, bE_r, stT]
        by_cases z_5 : q = h + (5 + 2 * i)
        · subst z_5
          simp (disch := omega) only [eS_r, eS_o, bE_l, bE_r, stT, tmX3_0]
          exact (hz_p (by omega)).symm
        obtain rfl : q = h + (5 + 2 * i) + 1 := by omega
        simp (disch := omega) only [eS_r, eS_o, bE_l, bE_r, stT, tmX3_1]
        exact (hz_ps (by omega)).symm
  refine a_cv (n1 := h + (5 + 2 * 0)) (E1 := stT g b h E 0 0 0) (kc1 := 3 + 2 * 0) (ks1 := 17 + 6 * 0) (by omega) (by show 0 + 1 + 1 + 1 = 3 + 2 * 0; omega) (by show 0 + 8 + 3 + 6 = 17 + 6 * 0; omega) (fun q hq => ?_) (loop_32 8 0 rfl)
  by_cases z_0 : q < h + 1
  · simp (disch := omega) only [eS_r, eS_o, bE_l, bE_r, stT]
  by_cases z_1 : q = h + 1
  · subst z_1
    simp (disch := omega) only [eS_r, eS_o, bE_l, bE_r, stT, hz_1]
  by_cases z_2 : q = h + 2
  · subst z_2
    simp (disch := omega) only [eS_r, eS_o, bE_l, bE_r, stT]
    exact congrArg (fun f => (Sum.inl (g.2 4, 8, .inr (.inr (.inr (.inr f)))) : va_E)) qF_0
  by_cases z_3 : q = h + 3
  · subst z_3
    simp (disch := omega) only [eS_r, eS_o, bE_l, bE_r, stT]
    exact congrArg (fun f => (Sum.inl (g.2 5, 3, .inr (.inr (.inr (.inr f)))) : va_E)) qF_0
  obtain rfl : q = h + 4 := by omega
  simp (disch := omega) only [eS_r, eS_o, bE_l, bE_r, stT]
  exact congrArg (fun f => (Sum.inl (g.2 6, 6, .inr (.inr (.inr (.inr f)))) : va_E)) qF_0
