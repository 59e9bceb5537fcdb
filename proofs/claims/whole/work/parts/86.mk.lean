/-! ===== the constructor of the class, and that of the reference ===== -/
def tplE (g : mG) (b : Nat) : Nat → va_E := fun q => if q = 0 then .inr (10, [.ref (b + 1), .ref (b + 47), .ref (b + 93), .ref (b + 325)]) else if q < 47 then hEm g b 1 q else if q < 93 then hEm g b 47 q else if q < 325 then tmX0 g b 93 q else tmX6 g b 325 q
theorem tplE_0 {g : mG} {b : Nat} : tplE g b 0 = .inr (10, [.ref (b + 1), .ref (b + 47), .ref (b + 93), .ref (b + 325)]) := if_pos rfl
theorem tplE_1 {g : mG} {b q : Nat} (h : ¬ q = 0) (h1 : q < 47) : tplE g b q = hEm g b 1 q := by
  unfold tplE
  rw [if_neg h, if_pos h1]
theorem tplE_2 {g : mG} {b q : Nat} (h : ¬ q < 47) (h1 : q < 93) : tplE g b q = hEm g b 47 q := by
  unfold tplE
  rw [if_neg (by omega), if_neg h, if_pos h1]
theorem tplE_3 {g : mG} {b q : Nat} (h : ¬ q < 93) (h1 : q < 325) : tplE g b q = tmX0 g b 93 q := by
  unfold tplE
  rw [if_neg (by omega), if_neg (by omega), if_neg h, if_pos h1]
theorem tplE_4 {g : mG} {b q : Nat} (h : ¬ q < 325) : tplE g b q = tmX6 g b 325 q := by
  unfold tplE
  rw [if_neg (by omega), if_neg (by omega), if_neg (by omega), if_neg h]
def mS0 : Nat → Int32 := upd (upd (fun _ => 0) 13 10) 14 30
def tmM (g : mG) (b : Nat) : Nat → va_E := fun q => if q = 0 then .inr (11, [.ref (b + 1), .ref (b + 2), .ref (b + 3), .ref (b + 4), .int 0, .ref (b + 5), .int 0, .int 0, .int 0, .int 0, .ref (b + 6)]) else if q = 1 then .inl (g.2 0, 229, .inl mS0) else if q = 2 then .inl (g.2 0, 229, .inl (fun _ => 0)) else if q = 3 then .inl (g.2 0, 229, .inl (fun _ => 0)) else if q = 4 then .inl (g.2 0, 916, .inl (fun _ => 0)) else if q = 5 then .inl (g.2 0, 80, .inl (fun _ => 0)) else .inl (g.2 0, 3, .inl (fun _ => 0))
theorem tmM_0 {g : mG} {b : Nat} : tmM g b 0 = .inr (11, [.ref (b + 1), .ref (b + 2), .ref (b + 3), .ref (b + 4), .int 0, .ref (b + 5), .int 0, .int 0, .int 0, .int 0, .ref (b + 6)]) := rfl
theorem tmM_1 {g : mG} {b : Nat} : tmM g b 1 = .inl (g.2 0, 229, .inl mS0) := rfl
theorem tmM_2 {g : mG} {b : Nat} : tmM g b 2 = .inl (g.2 0, 229, .inl (fun _ => 0)) := rfl
theorem tmM_3 {g : mG} {b : Nat} : tmM g b 3 = .inl (g.2 0, 229, .inl (fun _ => 0)) := rfl
theorem tmM_4 {g : mG} {b : Nat} : tmM g b 4 = .inl (g.2 0, 916, .inl (fun _ => 0)) := rfl
theorem tmM_5 {g : mG} {b : Nat} : tmM g b 5 = .inl (g.2 0, 80, .inl (fun _ => 0)) := rfl
theorem tmM_6 {g : mG} {b : Nat} : tmM g b 6 = .inl (g.2 0, 3, .inl (fun _ => 0)) := rfl
set_option maxRecDepth 100000 in
set_option maxHeartbeats 4000000 in
theorem k_X10_init {g : mG} {l : Launch} {b : Nat} (_u : Nat) : CA g l b yX10_init cX10_init 1 rm_X10_init (0) 328 (.inr (10, [.null, .null, .null, .null])) (tplE g b) := by
  refine CA.intro [some (.ref (b + 0))] (by decide +kernel) rfl rfl rfl rfl ?_
  intro E p e s m args below meth c Q C hE
  refine a_nn (n1 := 1) (by omega) ?_
  refine a_aload_n C dX10_init_0 rfl ?_
  refine a_objInit C kw_1_9 dX10_init_1 rfl rfl ?_
  refine a_aload_n C dX10_init_4 rfl ?_
  refine a_new C (ci := 1) (fs := [.null, .null, .null, .int 0, .int 0, .int 0]) inlX1 tyX1 tyX1_ok kw_1_12 kw_1_13 kw_1_14 rfl (fun j hj => match j, hj with | 0, _ => rfl | 1, _ => rfl | 2, _ => rfl | 3, _ => rfl | 4, _ => rfl | 5, _ => rfl | (j + 6), h => absurd h (by omega)) rfl rfl dX10_init_5 ?_
  refine a_dup C dX10_init_8 rfl ?_
  refine a_callI C (k := 1) kw_2_1 kw_2_2 kw_1_14 kw_2_3 ⟨by decide +kernel, by decide +kernel⟩ (by decide +kernel) rfl dX10_init_9 (k_X1_init 1) rfl (by simp (disch := omega) only [eS_r, eS_o, bE_l, bE_r, hE_0, tmX0_0, tmX6_0]) rfl rfl rfl rfl rfl rfl ?_
  refine a_nn (n1 := 47) (by omega) ?_
  refine a_pfF C (k := 0) (ci := 10) (fs := [.null, .null, .null, .null]) (fs1 := [.ref (b + 1), .null, .null, .null]) inlX10 tyX10 tyX10_ok nmX10 rfl 0 (by decide) kw_1_15 rfl rfl rfl rfl rfl dX10_init_12 (by omega) (by simp (disch := omega) only [eS_r, eS_o, bE_l, bE_r, hE_0, tmX0_0, tmX6_0]) (Nat.le_of_ble_eq_true rfl) rfl ?_
  refine a_aload_n C dX10_init_15 rfl ?_
  refine a_new C (ci := 1) (fs := [.null, .null, .null, .int 0, .int 0, .int 0]) inlX1 tyX1 tyX1_ok kw_1_12 kw_1_13 kw_1_14 rfl (fun j hj => match j, hj with | 0, _ => rfl | 1, _ => rfl | 2, _ => rfl | 3, _ => rfl | 4, _ => rfl | 5, _ => rfl | (j + 6), h => absurd h (by omega)) rfl rfl dX10_init_16 ?_
  refine a_dup C dX10_init_19 rfl ?_
  refine a_callI C (k := 47) kw_2_1 kw_2_2 kw_1_14 kw_2_3 ⟨by decide +kernel, by decide +kernel⟩ (by decide +kernel) rfl dX10_init_20 (k_X1_init 47) rfl (by simp (disch := omega) only [eS_r, eS_o, bE_l, bE_r, hE_0, tmX0_0, tmX6_0]) rfl rfl rfl rfl rfl rfl ?_
  refine a_nn (n1 := 93) (by omega) ?_
  refine a_pfF C (k := 0) (ci := 10) (fs := [.ref (b + 1), .null, .null, .null]) (fs1 := [.ref (b + 1), .ref (b + 47), .null, .null]) inlX10 tyX10 tyX10_ok nmX10 rfl 1 (by decide) kw_1_16 rfl rfl rfl rfl rfl dX10_init_23 (by omega) (by simp (disch := omega) only [eS_r, eS_o, bE_l, bE_r, hE_0, tmX0_0, tmX6_0]) (Nat.le_of_ble_eq_true rfl) rfl ?_
  refine a_aload_n C dX10_init_26 rfl ?_
  refine a_new C (ci := 0) (fs := [.null, .int 0]) inlX0 tyX0 tyX0_ok kw_1_17 kw_1_18 kw_1_19 rfl (fun j hj => match j, hj with | 0, _ => rfl | 1, _ => rfl | (j + 2), h => absurd h (by omega)) rfl rfl dX10_init_27 ?_
  refine a_dup C dX10_init_30 rfl ?_
  refine a_callI C (k := 93) kw_4_13 kw_4_14 kw_1_19 kw_4_15 ⟨by decide +kernel, by decide +kernel⟩ (by decide +kernel) rfl dX10_init_31 (k_X0_init 93) rfl (by simp (disch := omega) only [eS_r, eS_o, bE_l, bE_r, hE_0, tmX0_0, tmX6_0]) rfl rfl rfl rfl rfl rfl ?_
  refine a_nn (n1 := 325) (by omega) ?_
  refine a_pfF C (k := 0) (ci := 10) (fs := [.ref (b + 1), .ref (b + 47), .null, .null]) (fs1 := [.ref (b + 1), .ref (b + 47), .ref (b + 93), .null]) inlX10 tyX10 tyX10_ok nmX10 rfl 2 (by decide) kw_1_20 rfl rfl rfl rfl rfl dX10_init_34 (by omega) (by simp (disch := omega) only [eS_r, eS_o, bE_l, bE_r, hE_0, tmX0_0, tmX6_0]) (Nat.le_of_ble_eq_true rfl) rfl ?_
  refine a_aload_n C dX10_init_37 rfl ?_
  refine a_new C (ci := 6) (fs := [.null, .null, .int 0, .int 0, .int 0, .int 0, .int 0]) inlX6 tyX6 tyX6_ok kw_1_21 kw_1_22 kw_1_23 rfl (fun j hj => match j, hj with | 0, _ => rfl | 1, _ => rfl | 2, _ => rfl | 3, _ => rfl | 4, _ => rfl | 5, _ => rfl | 6, _ => rfl | (j + 7), h => absurd h (by omega)) rfl rfl dX10_init_38 ?_
  refine a_dup C dX10_init_41 rfl ?_
  refine a_callIN (host := RX10) C (k := 325) (List.mem_of_getElem? (i := 7) rfl) kw_4_20 kw_1_23 kw_4_21 ⟨by decide +kernel, by decide +kernel⟩ (by decide +kernel) rfl dX10_init_42 (k_X6_init 325) rfl (by simp (disch := omega) only [eS_r, eS_o, bE_l, bE_r, hE_0, tmX0_0, tmX6_0]) rfl rfl rfl rfl rfl rfl ?_
  refine a_nn (n1 := 328) (by omega) ?_
  refine a_pfF C (k := 0) (ci := 10) (fs := [.ref (b + 1), .ref (b + 47), .ref (b + 93), .null]) (fs1 := [.ref (b + 1), .ref (b + 47), .ref (b + 93), .ref (b + 325)]) inlX10 tyX10 tyX10_ok nmX10 rfl 3 (by decide) kw_2_0 rfl rfl rfl rfl rfl dX10_init_45 (by omega) (by simp (disch := omega) only [eS_r, eS_o, bE_l, bE_r, hE_0, tmX0_0, tmX6_0]) (Nat.le_of_ble_eq_true rfl) rfl ?_
  refine hE _ _ _ _ _ _ dX10_init_48 rfl rfl rfl (fun q hq => ?_)
  rw [bE_r (Nat.zero_le q)]
  by_cases z_0 : q = 0
  · subst z_0
    simp (disch := omega) only [eS_r, eS_o, bE_l, bE_r, tplE_0]
  by_cases z_1 : q < 47
  · simp (disch := omega) only [eS_r, eS_o, bE_l, bE_r, tplE_1]
  by_cases z_2 : q < 93
  · simp (disch := omega) only [eS_r, eS_o, bE_l, bE_r, tplE_2]
  by_cases z_3 : q < 325
  · simp (disch := omega) only [eS_r, eS_o, bE_l, bE_r, tplE_3]
  simp (disch := omega) only [eS_r, eS_o, bE_l, bE_r, tplE_4]
set_option maxRecDepth 100000 in
set_option maxHeartbeats 4000000 in
theorem k_X11_init {g : mG} {l : Launch} {b : Nat} (_u : Nat) : CA g l b yX11_init cX11_init 1 rm_X11_init (0) 7 (.inr (11, [.null, .null, .null, .null, .int 0, .null, .int 0, .int 0, .int 0, .int 0, .null])) (tmM g b) := by
  refine CA.intro [some (.ref (b + 0))] (by decide +kernel) rfl rfl rfl rfl ?_
  intro E p e s m args below meth c Q C hE
  refine a_nn (n1 := 1) (by omega) ?_
  refine a_aload_n C dX11_init_0 rfl ?_
  refine a_objInit C kw_5_6 dX11_init_1 rfl rfl ?_
  refine a_aload_n C dX11_init_4 rfl ?_
  refine a_sipush C dX11_init_5 rfl ?_
  refine a_newa C (ty := .int) (i := 0) (N := 229) (a0 := (229, .inl (fun _ => 0))) rfl (fun _ => rfl) kw_4_2 rfl (fun _ => rfl) (by decide +kernel) rfl (by decide +kernel) rfl rfl dX11_init_8 ?_
  refine a_nn (n1 := 2) (by omega) ?_
  refine a_pfF C (k := 0) (ci := 11) (fs := [.null, .null, .null, .null, .int 0, .null, .int 0, .int 0, .int 0, .int 0, .null]) (fs1 := [.ref (b + 1), .null, .null, .null, .int 0, .null, .int 0, .int 0, .int 0, .int 0, .null]) inlX11 tyX11 tyX11_ok nmX11 rfl 0 (by decide) kw_5_7 rfl rfl rfl rfl rfl dX11_init_10 (by omega) (by simp (disch := omega) only [eS_r, eS_o, bE_l, bE_r]) (Nat.le_of_ble_eq_true rfl) rfl ?_
  refine a_aload_n C dX11_init_13 rfl ?_
  refine a_sipush C dX11_init_14 rfl ?_
  refine a_newa C (ty := .int) (i := 0) (N := 229) (a0 := (229, .inl (fun _ => 0))) rfl (fun _ => rfl) kw_4_2 rfl (fun _ => rfl) (by decide +kernel) rfl (by decide +kernel) rfl rfl dX11_init_17 ?_
  refine a_nn (n1 := 3) (by omega) ?_
  refine a_pfF C (k := 0) (ci := 11) (fs := [.ref (b + 1), .null, .null, .null, .int 0, .null, .int 0, .int 0, .int 0, .int 0, .null]) (fs1 := [.ref (b + 1), .ref (b + 2), .null, .null, .int 0, .null, .int 0, .int 0, .int 0, .int 0, .null]) inlX11 tyX11 tyX11_ok nmX11 rfl 1 (by decide) kw_5_8 rfl rfl rfl rfl rfl dX11_init_19 (by omega) (by simp (disch := omega) only [eS_r, eS_o, bE_l, bE_r]) (Nat.le_of_ble_eq_true rfl) rfl ?_
  refine a_aload_n C dX11_init_22 rfl ?_
  refine a_sipush C dX11_init_23 rfl ?_
  refine a_newa C (ty := .int) (i := 0) (N := 229) (a0 := (229, .inl (fun _ => 0))) rfl (fun _ => rfl) kw_4_2 rfl (fun _ => rfl) (by decide +kernel) rfl (by decide +kernel) rfl rfl dX11_init_26 ?_
  refine a_nn (n1 := 4) (by omega) ?_
  refine a_pfF C (k := 0) (ci := 11) (fs := [.ref (b + 1), .ref (b + 2), .null, .null, .int 0, .null, .int 0, .int 0, .int 0, .int 0, .null]) (fs1 := [.ref (b + 1), .ref (b + 2), .ref (b + 3), .null, .int 0, .null, .int 0, .int 0, .int 0, .int 0, .null]) inlX11 tyX11 tyX11_ok nmX11 rfl 2 (by decide) kw_5_9 rfl rfl rfl rfl rfl dX11_init_28 (by omega) (by simp (disch := omega) only [eS_r, eS_o, bE_l, bE_r]) (Nat.le_of_ble_eq_true rfl) rfl ?_
  refine a_aload_n C dX11_init_31 rfl ?_
  refine a_sipush C dX11_init_32 rfl ?_
  refine a_newa C (ty := .int) (i := 0) (N := 916) (a0 := (916, .inl (fun _ => 0))) rfl (fun _ => rfl) kw_4_2 rfl (fun _ => rfl) (by decide +kernel) rfl (by decide +kernel) rfl rfl dX11_init_35 ?_
  refine a_nn (n1 := 5) (by omega) ?_
  refine a_pfF C (k := 0) (ci := 11) (fs := [.ref (b + 1), .ref (b + 2), .ref (b + 3), .null, .int 0, .null, .int 0, .int 0, .int 0, .int 0, .null]) (fs1 := [.ref (b + 1), .ref (b + 2), .ref (b + 3), .ref (b + 4), .int 0, .null, .int 0, .int 0, .int 0, .int 0, .null]) inlX11 tyX11 tyX11_ok nmX11 rfl 3 (by decide) kw_5_10 rfl rfl rfl rfl rfl dX11_init_37 (by omega) (by simp (disch := omega) only [eS_r, eS_o, bE_l, bE_r]) (Nat.le_of_ble_eq_true rfl) rfl ?_
  refine a_aload_n C dX11_init_40 rfl ?_
  refine a_bipush C dX11_init_41 bp_80 ?_
  refine a_newa C (ty := .int) (i := 0) (N := 80) (a0 := (80, .inl (fun _ => 0))) rfl (fun _ => rfl) kw_4_2 rfl (fun _ => rfl) (by decide +kernel) rfl (by decide +kernel) rfl rfl dX11_init_43 ?_
  refine a_nn (n1 := 6) (by omega) ?_
  refine a_pfF C (k := 0) (ci := 11) (fs := [.ref (b + 1), .ref (b + 2), .ref (b + 3), .ref (b + 4), .int 0, .null, .int 0, .int 0, .int 0, .int 0, .null]) (fs1 := [.ref (b + 1), .ref (b + 2), .ref (b + 3), .ref (b + 4), .int 0, .ref (b + 5), .int 0, .int 0, .int 0, .int 0, .null]) inlX11 tyX11 tyX11_ok nmX11 rfl 5 (by decide) kw_5_11 rfl rfl rfl rfl rfl dX11_init_45 (by omega) (by simp (disch := omega) only [eS_r, eS_o, bE_l, bE_r]) (Nat.le_of_ble_eq_true rfl) rfl ?_
  refine a_aload_n C dX11_init_48 rfl ?_
  refine a_iconst C dX11_init_49 ic_3 ?_
  refine a_newa C (ty := .int) (i := 0) (N := 3) (a0 := (3, .inl (fun _ => 0))) rfl (fun _ => rfl) kw_4_2 rfl (fun _ => rfl) (by decide +kernel) rfl (by decide +kernel) rfl rfl dX11_init_50 ?_
  refine a_nn (n1 := 7) (by omega) ?_
  refine a_pfF C (k := 0) (ci := 11) (fs := [.ref (b + 1), .ref (b + 2), .ref (b + 3), .ref (b + 4), .int 0, .ref (b + 5), .int 0, .int 0, .int 0, .int 0, .null]) (fs1 := [.ref (b + 1), .ref (b + 2), .ref (b + 3), .ref (b + 4), .int 0, .ref (b + 5), .int 0, .int 0, .int 0, .int 0, .ref (b + 6)]) inlX11 tyX11 tyX11_ok nmX11 rfl 10 (by decide) kw_5_12 rfl rfl rfl rfl rfl dX11_init_52 (by omega) (by simp (disch := omega) only [eS_r, eS_o, bE_l, bE_r]) (Nat.le_of_ble_eq_true rfl) rfl ?_
  refine a_aload_n C dX11_init_55 rfl ?_
  refine a_get C (k := 0) (ci := 11) (fs := [.ref (b + 1), .ref (b + 2), .ref (b + 3), .ref (b + 4), .int 0, .ref (b + 5), .int 0, .int 0, .int 0, .int 0, .ref (b + 6)]) inlX11 rfl 0 (by decide) kw_5_7 rfl dX11_init_56 (by omega) (by simp (disch := omega) only [eS_r, eS_o, bE_l, bE_r]) rfl ?_
  refine a_bipush C dX11_init_59 bp_13 ?_
  refine a_bipush C dX11_init_61 bp_10 ?_
  refine a_iast C (k := 1) (f := (fun _ => 0)) (sz := 229) (j := 13) dX11_init_63 (by omega) (by simp (disch := omega) only [eS_r, eS_o, bE_l, bE_r]) (by decide +kernel) (by decide +kernel) (by decide +kernel) ?_
  refine a_aload_n C dX11_init_64 rfl ?_
  refine a_get C (k := 0) (ci := 11) (fs := [.ref (b + 1), .ref (b + 2), .ref (b + 3), .ref (b + 4), .int 0, .ref (b + 5), .int 0, .int 0, .int 0, .int 0, .ref (b + 6)]) inlX11 rfl 0 (by decide) kw_5_7 rfl dX11_init_65 (by omega) (by simp (disch := omega) only [eS_r, eS_o, bE_l, bE_r]) rfl ?_
  refine a_bipush C dX11_init_68 bp_14 ?_
  refine a_bipush C dX11_init_70 bp_30 ?_
  refine a_iast C (k := 1) (f := (upd (fun _ => 0) 13 10)) (sz := 229) (j := 14) dX11_init_72 (by omega) (by simp (disch := omega) only [eS_r, eS_o, bE_l, bE_r]) (by decide +kernel) (by decide +kernel) (by decide +kernel) ?_
  refine hE _ _ _ _ _ _ dX11_init_73 rfl rfl rfl (fun q hq => ?_)
  rw [bE_r (Nat.zero_le q)]
  by_cases z_0 : q = 0
  · subst z_0
    simp (disch := omega) only [eS_r, eS_o, bE_l, bE_r, tmM_0]
  by_cases z_1 : q = 1
  · subst z_1
    simp (disch := omega) only [eS_r, eS_o, bE_l, bE_r, tmM_1]
    rfl
  by_cases z_2 : q = 2
  · subst z_2
    simp (disch := omega) only [eS_r, eS_o, bE_l, bE_r, tmM_2]
  by_cases z_3 : q = 3
  · subst z_3
    simp (disch := omega) only [eS_r, eS_o, bE_l, bE_r, tmM_3]
  by_cases z_4 : q = 4
  · subst z_4
    simp (disch := omega) only [eS_r, eS_o, bE_l, bE_r, tmM_4]
  by_cases z_5 : q = 5
  · subst z_5
    simp (disch := omega) only [eS_r, eS_o, bE_l, bE_r, tmM_5]
  obtain rfl : q = 6 := by omega
  simp (disch := omega) only [eS_r, eS_o, bE_l, bE_r, tmM_6]
