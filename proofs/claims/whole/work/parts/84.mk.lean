/-! ===== the constructor of a House ===== -/
def hEm (g : mG) (b h : Nat) : Nat → va_E := fun q => if q = h then .inr (1, [.ref (b + (h + 1)), .ref (b + (h + 36)), .ref (b + (h + 37)), .int 0, .int 10, .int 30]) else hT g b h q (fun _ => 0)
theorem hE_0 {g : mG} {b h : Nat} : hEm g b h h = .inr (1, [.ref (b + (h + 1)), .ref (b + (h + 36)), .ref (b + (h + 37)), .int 0, .int 10, .int 30]) := if_pos rfl
theorem hE_o {g : mG} {b h q : Nat} (hq : q ≠ h) : hEm g b h q = hT g b h q (fun _ => 0) := if_neg hq
def stH (g : mG) (b h : Nat) (E : Nat → va_E) (i : Nat) : Nat → va_E := eS (bE E h (hEm g b h)) (h + 36) (aQ g 3 8 i (fun j => b + (h + (38 + j))))
set_option maxRecDepth 100000 in
set_option maxHeartbeats 4000000 in
theorem k_X1_init {g : mG} {l : Launch} {b : Nat} (h : Nat) : CA g l b yX1_init cX1_init 2 rm_X1_init (h) 46 (.inr (1, [.null, .null, .null, .int 0, .int 0, .int 0])) (hEm g b h) := by
  refine CA.intro [some (.ref (b + h)), none] (by decide +kernel) rfl rfl rfl rfl ?_
  intro E p e s m args below meth c Q C hE
  refine a_aload_n C dX1_init_0 rfl ?_
  refine a_objInit C kw_2_4 dX1_init_1 rfl rfl ?_
  refine a_aload_n C dX1_init_4 rfl ?_
  refine a_new C (ci := 5) (fs := [.null, .null, .null, .int 0, .int 0, .int 0]) inlX5 tyX5 tyX5_ok kw_2_5 kw_2_6 kw_2_7 rfl (fun j hj => match j, hj with | 0, _ => rfl | 1, _ => rfl | 2, _ => rfl | 3, _ => rfl | 4, _ => rfl | 5, _ => rfl | (j + 6), h => absurd h (by omega)) rfl rfl dX1_init_5 ?_
  refine a_dup C dX1_init_8 rfl ?_
  refine a_callI C (k := h + 1) kw_2_19 kw_2_20 kw_2_7 kw_2_21 ⟨by decide +kernel, by decide +kernel⟩ (by decide +kernel) rfl dX1_init_9 (k_X5_init h) rfl (by simp (disch := omega) only [eS_r, eS_o, bE_l, bE_r, stH, hE_0, hz_1]) rfl rfl rfl rfl rfl rfl ?_
  refine a_nn (n1 := h + 36) (by omega) ?_
  refine a_pfF C (k := h) (ci := 1) (fs := [.null, .null, .null, .int 0, .int 0, .int 0]) (fs1 := [.ref (b + (h + 1)), .null, .null, .int 0, .int 0, .int 0]) inlX1 tyX1 tyX1_ok nmX1 rfl 0 (by decide) kw_2_8 rfl rfl rfl rfl rfl dX1_init_12 (by omega) (by simp (disch := omega) only [eS_r, eS_o, bE_l, bE_r, stH, hE_0, hz_1]) (Nat.le_of_ble_eq_true rfl) rfl ?_
  refine a_aload_n C dX1_init_15 rfl ?_
  refine a_bipush C dX1_init_16 bp_8 ?_
  refine a_newq C (i := 3) (N := 8) kw_2_9 (by decide +kernel) rfl (by decide +kernel) rfl rfl rfl dX1_init_18 ?_
  refine a_nn (n1 := h + 37) (by omega) ?_
  refine a_pfF C (k := h) (ci := 1) (fs := [.ref (b + (h + 1)), .null, .null, .int 0, .int 0, .int 0]) (fs1 := [.ref (b + (h + 1)), .ref (b + (h + 36)), .null, .int 0, .int 0, .int 0]) inlX1 tyX1 tyX1_ok nmX1 rfl 1 (by decide) kw_2_10 rfl rfl rfl rfl rfl dX1_init_21 (by omega) (by simp (disch := omega) only [eS_r, eS_o, bE_l, bE_r, stH, hE_0, hz_1]) (Nat.le_of_ble_eq_true rfl) rfl ?_
  refine a_aload_n C dX1_init_24 rfl ?_
  refine a_new C (ci := 9) (fs := [.int 0, .int 0, .int 0, .int 0, .int 0, .int 0, .int 0, .int 0, .int 0, .int 0]) inlX9 tyX9 tyX9_ok kw_2_11 kw_2_12 kw_2_13 rfl (fun j hj => match j, hj with | 0, _ => rfl | 1, _ => rfl | 2, _ => rfl | 3, _ => rfl | 4, _ => rfl | 5, _ => rfl | 6, _ => rfl | 7, _ => rfl | 8, _ => rfl | 9, _ => rfl | (j + 10), h => absurd h (by omega)) rfl rfl dX1_init_25 ?_
  refine a_dup C dX1_init_28 rfl ?_
  refine a_callIN (host := RX10) C (k := h + 37) (List.mem_of_getElem? (i := 5) rfl) kw_4_7 kw_2_13 kw_4_8 ⟨by decide +kernel, by decide +kernel⟩ (by decide +kernel) rfl dX1_init_29 (k_X9_init (h + 37)) rfl (by simp (disch := omega) only [eS_r, eS_o, bE_l, bE_r, stH, hE_0, hz_1]) rfl rfl rfl rfl rfl rfl ?_
  refine a_nn (n1 := h + 38) (by omega) ?_
  refine a_pfF C (k := h) (ci := 1) (fs := [.ref (b + (h + 1)), .ref (b + (h + 36)), .null, .int 0, .int 0, .int 0]) (fs1 := [.ref (b + (h + 1)), .ref (b + (h + 36)), .ref (b + (h + 37)), .int 0, .int 0, .int 0]) inlX1 tyX1 tyX1_ok nmX1 rfl 2 (by decide) kw_2_14 rfl rfl rfl rfl rfl dX1_init_32 (by omega) (by simp (disch := omega) only [eS_r, eS_o, bE_l, bE_r, stH, hE_0, hz_1]) (Nat.le_of_ble_eq_true rfl) rfl ?_
  refine a_aload_n C dX1_init_35 rfl ?_
  refine a_bipush C dX1_init_36 bp_10 ?_
  refine a_pf C (k := h) (ci := 1) (fs := [.ref (b + (h + 1)), .ref (b + (h + 36)), .ref (b + (h + 37)), .int 0, .int 0, .int 0]) (fs1 := [.ref (b + (h + 1)), .ref (b + (h + 36)), .ref (b + (h + 37)), .int 0, .int 10, .int 0]) inlX1 tyX1 tyX1_ok nmX1 rfl 4 (by decide) kw_2_15 rfl rfl rfl rfl dX1_init_38 (by omega) (by simp (disch := omega) only [eS_r, eS_o, bE_l, bE_r, stH, hE_0, hz_1]) (Nat.le_of_ble_eq_true rfl) rfl ?_
  refine a_aload_n C dX1_init_41 rfl ?_
  refine a_bipush C dX1_init_42 bp_30 ?_
  refine a_pf C (k := h) (ci := 1) (fs := [.ref (b + (h + 1)), .ref (b + (h + 36)), .ref (b + (h + 37)), .int 0, .int 10, .int 0]) (fs1 := [.ref (b + (h + 1)), .ref (b + (h + 36)), .ref (b + (h + 37)), .int 0, .int 10, .int 30]) inlX1 tyX1 tyX1_ok nmX1 rfl 5 (by decide) kw_2_16 rfl rfl rfl rfl dX1_init_44 (by omega) (by simp (disch := omega) only [eS_r, eS_o, bE_l, bE_r, stH, hE_0, hz_1]) (Nat.le_of_ble_eq_true rfl) rfl ?_
  refine a_iconst C dX1_init_47 ic_0 ?_
  refine a_istore_n C dX1_init_48 rfl rfl ?_
  have loop_49 : ∀ (r i : Nat), i + r = 8 → WA g p l e rm_X1_init s m args below meth c Q b (h + (38 + i)) (stH g b h E i) (37 + 1 * i) (140 + 14 * i) 49 [some (.ref (b + h)), some (.int (nI i))] [] := by
    intro r
    induction r with
    | zero =>
      intro i hi
      obtain rfl : i = 8 := by omega
      refine a_iload_n C dX1_init_49 rfl ?_
      refine a_aload_n C dX1_init_50 rfl ?_
      refine a_get C (k := h) (ci := 1) (fs := [.ref (b + (h + 1)), .ref (b + (h + 36)), .ref (b + (h + 37)), .int 0, .int 10, .int 30]) inlX1 rfl 1 (by decide) kw_2_10 rfl dX1_init_51 (by omega) (by simp (disch := omega) only [eS_r, eS_o, bE_l, bE_r, stH, hE_0, hz_1]) rfl ?_
      refine a_alen C (k := h + 36) (t0 := 3) (x := (8, .inr (.inr (.inr (.inr (qF 8 (fun j => b + (h + (38 + j))))))))) (y := nI 8) dX1_init_54 (by omega) (by simp (disch := omega) only [eS_r, eS_o, bE_l, bE_r, stH, hE_0, hz_1]) rfl rfl ?_
      refine a_icmp_ge (tgt := 77) C dX1_init_55 rfl (fun c_55 => ?_) (fun c_55 => ?_)
      · skip
        refine a_cvA (E1 := bE E h (hEm g b h)) (fun q hq => ?_) (hE _ _ _ _ _ _ dX1_init_77 (by omega) rfl rfl (fun _ _ => rfl))
        by_cases z_0 : q < h
        · refine va_cg ?_
          simp (disch := omega) only [eS_r, eS_o, bE_l, bE_r, stH]
        by_cases z_1 : q = h + 36
        · subst z_1
          refine va_cq (g := g) (t := 3) (sz := 8) (i := 8) (F := (fun j => b + (h + (38 + j)))) rfl ?_ ?_
          · simp (disch := omega) only [eS_r, eS_o, bE_l, bE_r, stH]
          · simp (disch := omega) only [eS_r, eS_o, bE_l, bE_r, hE_o, hz_36]
        refine va_cg ?_
        simp (disch := omega) only [eS_r, eS_o, bE_l, bE_r, stH]
      · exact absurd ((na_lt rfl rfl (by omega) (by omega)).mp c_55) (by omega)
    | succ r ih_49 =>
      intro i hi
      refine a_iload_n C dX1_init_49 rfl ?_
      refine a_aload_n C dX1_init_50 rfl ?_
      refine a_get C (k := h) (ci := 1) (fs := [.ref (b + (h + 1)), .ref (b + (h + 36)), .ref (b + (h + 37)), .int 0, .int 10, .int 30]) inlX1 rfl 1 (by decide) kw_2_10 rfl dX1_init_51 (by omega) (by simp (disch := omega) only [eS_r, eS_o, bE_l, bE_r, stH, hE_0, hz_1]) rfl ?_
      refine a_alen C (k := h + 36) (t0 := 3) (x := (8, .inr (.inr (.inr (.inr (qF i (fun j => b + (h + (38 + j))))))))) (y := nI 8) dX1_init_54 (by omega) (by simp (disch := omega) only [eS_r, eS_o, bE_l, bE_r, stH, hE_0, hz_1]) rfl rfl ?_
      refine a_icmp_ge (tgt := 77) C dX1_init_55 rfl (fun c_55 => ?_) (fun c_55 => ?_)
      · exact absurd ((na_lt rfl rfl (by omega) (by omega)).mpr (by omega)) c_55
      · skip
        refine a_aload_n C dX1_init_58 rfl ?_
        refine a_get C (k := h) (ci := 1) (fs := [.ref (b + (h + 1)), .ref (b + (h + 36)), .ref (b + (h + 37)), .int 0, .int 10, .int 30]) inlX1 rfl 1 (by decide) kw_2_10 rfl dX1_init_59 (by omega) (by simp (disch := omega) only [eS_r, eS_o, bE_l, bE_r, stH, hE_0, hz_1]) rfl ?_
        refine a_iload_n C dX1_init_62 rfl ?_
        refine a_new C (ci := 2) (fs := [.int 0, .int 0, .int 0, .int 0, .int 0, .int 0, .int 0, .int 0, .int 0, .int 0, .int 0, .int 0, .int 0, .int 0]) inlX2 tyX2 tyX2_ok kw_2_9 kw_2_17 kw_2_18 rfl (fun j hj => match j, hj with | 0, _ => rfl | 1, _ => rfl | 2, _ => rfl | 3, _ => rfl | 4, _ => rfl | 5, _ => rfl | 6, _ => rfl | 7, _ => rfl | 8, _ => rfl | 9, _ => rfl | 10, _ => rfl | 11, _ => rfl | 12, _ => rfl | 13, _ => rfl | (j + 14), h => absurd h (by omega)) (Nat.ble_eq_true_of_le (by show 37 + 1 * i + 1 ≤ 45; omega)) (Nat.ble_eq_true_of_le (by show 140 + 14 * i + 14 ≤ 252; omega)) dX1_init_63 ?_
        refine a_dup C dX1_init_66 rfl ?_
        refine a_callIN (host := RX10) C (k := h + (38 + i)) (List.mem_of_getElem? (i := 6) rfl) kw_4_10 kw_2_18 kw_4_11 ⟨by decide +kernel, by decide +kernel⟩ (by decide +kernel) rfl dX1_init_67 (k_X2_init (h + (38 + i))) rfl (by simp (disch := omega) only [eS_r, eS_o, bE_l, bE_r, stH, hE_0, hz_1]) rfl rfl rfl (Nat.ble_eq_true_of_le (by show 37 + 1 * i + 1 + 0 ≤ 45; omega)) (Nat.ble_eq_true_of_le (by show 140 + 14 * i + 14 + 0 ≤ 252; omega)) rfl ?_
        refine a_nn (n1 := h + (38 + i) + 1) (by omega) ?_
        refine a_astq C (k := h + 36) (t0 := 3) (qk := h + (38 + i)) (ci := 2) (vs := [.int 0, .int 0, .int 0, .int 0, .int 0, .int 0, .int 0, .int 0, .int 0, .int 0, .int 0, .int 0, .int 0, .int 0]) (f := (qF i (fun j => b + (h + (38 + j))))) (sz := 8) (j := i) dX1_init_70 (by omega) (by simp (disch := omega) only [eS_r, eS_o, bE_l, bE_r, stH, hE_0, hz_1]) rfl (by omega) (by simp (disch := omega) only [eS_r, eS_o, bE_l, bE_r, stH, hE_0, hz_1]) rfl rfl (by omega) (by decide +kernel) ?_
        refine a_iinc C dX1_init_71 rfl (nI_inc _) rfl ?_
        refine a_goto (tgt := 49) C dX1_init_74 rfl ?_
        refine a_cv (n1 := h + (38 + (i + 1))) (E1 := stH g b h E (i + 1)) (kc1 := 37 + 1 * (i + 1)) (ks1 := 140 + 14 * (i + 1)) (by omega) (by show 37 + 1 * i + 1 + 0 = 37 + 1 * (i + 1); omega) (by show 140 + 14 * i + 14 + 0 = 140 + 14 * (i + 1); omega) (fun q hq => ?_) (ih_49 (i + 1) (by omega))
        by_cases z_0 : q < h
        · simp (disch := omega) only [eS_r, eS_o, bE_l, bE_r, stH]
        by_cases z_1 : q = h + 36
        · subst z_1
          simp (disch := omega) only [eS_r, eS_o, bE_l, bE_r, stH]
          exact congrArg (fun f => (Sum.inl (g.2 3, 8, .inr (.inr (.inr (.inr f)))) : va_E)) (qF_up rfl)
        by_cases z_2 : q < h + (38 + i)
        · simp (disch := omega) only [eS_r, eS_o, bE_l, bE_r, stH]
        obtain rfl : q = h + (38 + i) := by omega
        simp (disch := omega) only [eS_r, eS_o, bE_l, bE_r, stH, hE_o]
        exact (hz_i (by omega)).symm
  refine a_cv (n1 := h + (38 + 0)) (E1 := stH g b h E 0) (kc1 := 37 + 1 * 0) (ks1 := 140 + 14 * 0) (by omega) (by show 0 + 1 + 34 + 1 + 1 + 0 = 37 + 1 * 0; omega) (by show 0 + 6 + 116 + 8 + 10 + 0 = 140 + 14 * 0; omega) (fun q hq => ?_) (loop_49 8 0 rfl)
  by_cases z_0 : q < h
  · simp (disch := omega) only [eS_r, eS_o, bE_l, bE_r, stH]
  by_cases z_1 : q = h
  · subst z_1
    simp (disch := omega) only [eS_r, eS_o, bE_l, bE_r, stH, hE_0]
  by_cases z_2 : q = h + 36
  · subst z_2
    simp (disch := omega) only [eS_r, eS_o, bE_l, bE_r, stH]
    exact congrArg (fun f => (Sum.inl (g.2 3, 8, .inr (.inr (.inr (.inr f)))) : va_E)) qF_0
  by_cases z_3 : q = h + 37
  · subst z_3
    simp (disch := omega) only [eS_r, eS_o, bE_l, bE_r, stH, hE_o, hz_37]
  simp (disch := omega) only [eS_r, eS_o, bE_l, bE_r, stH, hE_o]
