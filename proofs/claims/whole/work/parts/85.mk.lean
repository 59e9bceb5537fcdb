/-! ===== the constructors of a Script and of the History ===== -/
def tmX6 (g : mG) (b k : Nat) : Nat → va_E := fun q => if q = k then .inr (6, [.ref (b + (k + 1)), .ref (b + (k + 2)), .int 0, .int 0, .int 0, .int 0, .int (-1)]) else if q = k + 1 then .inl (g.2 1, 80, .inl (fun _ => 0)) else .inl (g.2 0, 3, .inl (fun _ => 0))
theorem tmX6_0 {g : mG} {b k : Nat} : tmX6 g b k k = .inr (6, [.ref (b + (k + 1)), .ref (b + (k + 2)), .int 0, .int 0, .int 0, .int 0, .int (-1)]) := if_pos rfl
theorem tmX6_1 {g : mG} {b k : Nat} : tmX6 g b k (k + 1) = .inl (g.2 1, 80, .inl (fun _ => 0)) := by
  unfold tmX6
  rw [if_neg (by omega), if_pos rfl]
theorem tmX6_2 {g : mG} {b k : Nat} : tmX6 g b k (k + 2) = .inl (g.2 0, 3, .inl (fun _ => 0)) := by
  unfold tmX6
  rw [if_neg (by omega), if_neg (by omega)]
def tmX0 (g : mG) (b k : Nat) : Nat → va_E := fun q => if q = k then .inr (0, [.ref (b + (k + 1)), .int 0]) else if q = k + 1 then aQ g 2 5 5 (fun j => b + (k + (2 + 46 * j))) else hEm g b (k + (2 + 46 * ((q - (k + 2)) / 46))) q
theorem tmX0_0 {g : mG} {b k : Nat} : tmX0 g b k k = .inr (0, [.ref (b + (k + 1)), .int 0]) := if_pos rfl
theorem tmX0_1 {g : mG} {b k : Nat} : tmX0 g b k (k + 1) = aQ g 2 5 5 (fun j => b + (k + (2 + 46 * j))) := by
  unfold tmX0
  rw [if_neg (by omega), if_pos rfl]
theorem tmX0_h {g : mG} {b k i q : Nat} (h1 : k + (2 + 46 * i) ≤ q) (h2 : q < k + (2 + 46 * i) + 46) : tmX0 g b k q = hEm g b (k + (2 + 46 * i)) q := by
  unfold tmX0
  rw [if_neg (by omega), if_neg (by omega), show (q - (k + 2)) / 46 = i by omega]
def stY (g : mG) (b k : Nat) (E : Nat → va_E) (i : Nat) : Nat → va_E := eS (bE E k (tmX0 g b k)) (k + 1) (aQ g 2 5 i (fun j => b + (k + (2 + 46 * j))))
set_option maxRecDepth 100000 in
set_option maxHeartbeats 4000000 in
theorem k_X6_init {g : mG} {l : Launch} {b : Nat} (k : Nat) : CA g l b yX6_init cX6_init 1 rm_X6_init (k) 3 (.inr (6, [.null, .null, .int 0, .int 0, .int 0, .int 0, .int 0])) (tmX6 g b k) := by
  refine CA.intro [some (.ref (b + k))] (by decide +kernel) rfl rfl rfl rfl ?_
  intro E p e s m args below meth c Q C hE
  refine a_aload_n C dX6_init_0 rfl ?_
  refine a_objInit C kw_4_22 dX6_init_1 rfl rfl ?_
  refine a_aload_n C dX6_init_4 rfl ?_
  refine a_bipush C dX6_init_5 bp_80 ?_
  refine a_newa C (ty := .char) (i := 1) (N := 80) (a0 := (80, .inl (fun _ => 0))) rfl (fun _ => rfl) kw_4_23 rfl (fun _ => rfl) (by decide +kernel) rfl (by decide +kernel) rfl rfl dX6_init_7 ?_
  refine a_nn (n1 := k + 2) (by omega) ?_
  refine a_pfF C (k := k) (ci := 6) (fs := [.null, .null, .int 0, .int 0, .int 0, .int 0, .int 0]) (fs1 := [.ref (b + (k + 1)), .null, .int 0, .int 0, .int 0, .int 0, .int 0]) inlX6 tyX6 tyX6_ok nmX6 rfl 0 (by decide) kw_5_0 rfl rfl rfl rfl rfl dX6_init_9 (by omega) (by simp (disch := omega) only [eS_r, eS_o, bE_l, bE_r]) (Nat.le_of_ble_eq_true rfl) rfl ?_
  refine a_aload_n C dX6_init_12 rfl ?_
  refine a_iconst C dX6_init_13 ic_3 ?_
  refine a_newa C (ty := .int) (i := 0) (N := 3) (a0 := (3, .inl (fun _ => 0))) rfl (fun _ => rfl) kw_4_2 rfl (fun _ => rfl) (by decide +kernel) rfl (by decide +kernel) rfl rfl dX6_init_14 ?_
  refine a_nn (n1 := k + 3) (by omega) ?_
  refine a_pfF C (k := k) (ci := 6) (fs := [.ref (b + (k + 1)), .null, .int 0, .int 0, .int 0, .int 0, .int 0]) (fs1 := [.ref (b + (k + 1)), .ref (b + (k + 2)), .int 0, .int 0, .int 0, .int 0, .int 0]) inlX6 tyX6 tyX6_ok nmX6 rfl 1 (by decide) kw_5_1 rfl rfl rfl rfl rfl dX6_init_16 (by omega) (by simp (disch := omega) only [eS_r, eS_o, bE_l, bE_r]) (Nat.le_of_ble_eq_true rfl) rfl ?_
  refine a_aload_n C dX6_init_19 rfl ?_
  refine a_iconst C dX6_init_20 ic_m1 ?_
  refine a_pf C (k := k) (ci := 6) (fs := [.ref (b + (k + 1)), .ref (b + (k + 2)), .int 0, .int 0, .int 0, .int 0, .int 0]) (fs1 := [.ref (b + (k + 1)), .ref (b + (k + 2)), .int 0, .int 0, .int 0, .int 0, .int (-1)]) inlX6 tyX6 tyX6_ok nmX6 rfl 6 (by decide) kw_5_2 rfl rfl rfl rfl dX6_init_21 (by omega) (by simp (disch := omega) only [eS_r, eS_o, bE_l, bE_r]) (Nat.le_of_ble_eq_true rfl) rfl ?_
  refine hE _ _ _ _ _ _ dX6_init_24 rfl rfl rfl (fun q hq => ?_)
  by_cases z_0 : q < k
  · simp (disch := omega) only [eS_r, eS_o, bE_l, bE_r]
  by_cases z_1 : q = k
  · subst z_1
    simp (disch := omega) only [eS_r, eS_o, bE_l, bE_r, tmX6_0]
  by_cases z_2 : q = k + 1
  · subst z_2
    simp (disch := omega) only [eS_r, eS_o, bE_l, bE_r, tmX6_1]
  obtain rfl : q = k + 2 := by omega
  simp (disch := omega) only [eS_r, eS_o, bE_l, bE_r, tmX6_2]
set_option maxRecDepth 100000 in
set_option maxHeartbeats 4000000 in
theorem k_X0_init {g : mG} {l : Launch} {b : Nat} (k : Nat) : CA g l b yX0_init cX0_init 2 rm_X0_init (k) 232 (.inr (0, [.null, .int 0])) (tmX0 g b k) := by
  refine CA.intro [some (.ref (b + k)), none] (by decide +kernel) rfl rfl rfl rfl ?_
  intro E p e s m args below meth c Q C hE
  refine a_aload_n C dX0_init_0 rfl ?_
  refine a_objInit C kw_4_16 dX0_init_1 rfl rfl ?_
  refine a_aload_n C dX0_init_4 rfl ?_
  refine a_iconst C dX0_init_5 ic_5 ?_
  refine a_newq C (i := 2) (N := 5) kw_4_17 (by decide +kernel) rfl (by decide +kernel) rfl rfl rfl dX0_init_6 ?_
  refine a_nn (n1 := k + 2) (by omega) ?_
  refine a_pfF C (k := k) (ci := 0) (fs := [.null, .int 0]) (fs1 := [.ref (b + (k + 1)), .int 0]) inlX0 tyX0 tyX0_ok nmX0 rfl 0 (by decide) kw_4_18 rfl rfl rfl rfl rfl dX0_init_9 (by omega) (by simp (disch := omega) only [eS_r, eS_o, bE_l, bE_r, stY, tmX0_0, hE_0]) (Nat.le_of_ble_eq_true rfl) rfl ?_
  refine a_iconst C dX0_init_12 ic_0 ?_
  refine a_istore_n C dX0_init_13 rfl rfl ?_
  have loop_14 : ∀ (r i : Nat), i + r = 5 → WA g p l e rm_X0_init s m args below meth c Q b (k + (2 + 46 * i)) (stY g b k E i) (1 + 46 * i) (5 + 258 * i) 14 [some (.ref (b + k)), some (.int (nI i))] [] := by
    intro r
    induction r with
    | zero =>
      intro i hi
      obtain rfl : i = 5 := by omega
      refine a_iload_n C dX0_init_14 rfl ?_
      refine a_aload_n C dX0_init_15 rfl ?_
      refine a_get C (k := k) (ci := 0) (fs := [.ref (b + (k + 1)), .int 0]) inlX0 rfl 0 (by decide) kw_4_18 rfl dX0_init_16 (by omega) (by simp (disch := omega) only [eS_r, eS_o, bE_l, bE_r, stY, tmX0_0, hE_0]) rfl ?_
      refine a_alen C (k := k + 1) (t0 := 2) (x := (5, .inr (.inr (.inr (.inr (qF 5 (fun j => b + (k + (2 + 46 * j))))))))) (y := nI 5) dX0_init_19 (by omega) (by simp (disch := omega) only [eS_r, eS_o, bE_l, bE_r, stY, tmX0_0, hE_0]) rfl rfl ?_
      refine a_icmp_ge (tgt := 42) C dX0_init_20 rfl (fun c_20 => ?_) (fun c_20 => ?_)
      · skip
        refine hE _ _ _ _ _ _ dX0_init_42 (by omega) rfl rfl (fun q hq => ?_)
        by_cases z_0 : q < k
        · simp (disch := omega) only [eS_r, eS_o, bE_l, bE_r, stY]
        by_cases z_1 : q = k + 1
        · subst z_1
          simp (disch := omega) only [eS_r, eS_o, bE_l, bE_r, stY, tmX0_1]
        simp (disch := omega) only [eS_r, eS_o, bE_l, bE_r, stY]
      · exact absurd ((na_lt rfl rfl (by omega) (by omega)).mp c_20) (by omega)
    | succ r ih_14 =>
      intro i hi
      refine a_iload_n C dX0_init_14 rfl ?_
      refine a_aload_n C dX0_init_15 rfl ?_
      refine a_get C (k := k) (ci := 0) (fs := [.ref (b + (k + 1)), .int 0]) inlX0 rfl 0 (by decide) kw_4_18 rfl dX0_init_16 (by omega) (by simp (disch := omega) only [eS_r, eS_o, bE_l, bE_r, stY, tmX0_0, hE_0]) rfl ?_
      refine a_alen C (k := k + 1) (t0 := 2) (x := (5, .inr (.inr (.inr (.inr (qF i (fun j => b + (k + (2 + 46 * j))))))))) (y := nI 5) dX0_init_19 (by omega) (by simp (disch := omega) only [eS_r, eS_o, bE_l, bE_r, stY, tmX0_0, hE_0]) rfl rfl ?_
      refine a_icmp_ge (tgt := 42) C dX0_init_20 rfl (fun c_20 => ?_) (fun c_20 => ?_)
      · exact absurd ((na_lt rfl rfl (by omega) (by omega)).mpr (by omega)) c_20
      · skip
        refine a_aload_n C dX0_init_23 rfl ?_
        refine a_get C (k := k) (ci := 0) (fs := [.ref (b + (k + 1)), .int 0]) inlX0 rfl 0 (by decide) kw_4_18 rfl dX0_init_24 (by omega) (by simp (disch := omega) only [eS_r, eS_o, bE_l, bE_r, stY, tmX0_0, hE_0]) rfl ?_
        refine a_iload_n C dX0_init_27 rfl ?_
        refine a_new C (ci := 1) (fs := [.null, .null, .null, .int 0, .int 0, .int 0]) inlX1 tyX1 tyX1_ok kw_4_17 kw_1_13 kw_1_14 rfl (fun j hj => match j, hj with | 0, _ => rfl | 1, _ => rfl | 2, _ => rfl | 3, _ => rfl | 4, _ => rfl | 5, _ => rfl | (j + 6), h => absurd h (by omega)) (Nat.ble_eq_true_of_le (by show 1 + 46 * i + 1 ≤ 231; omega)) (Nat.ble_eq_true_of_le (by show 5 + 258 * i + 6 ≤ 1295; omega)) dX0_init_28 ?_
        refine a_dup C dX0_init_31 rfl ?_
        refine a_callI C (k := k + (2 + 46 * i)) kw_4_19 kw_2_2 kw_1_14 kw_2_3 ⟨by decide +kernel, by decide +kernel⟩ (by decide +kernel) rfl dX0_init_32 (k_X1_init (k + (2 + 46 * i))) rfl (by simp (disch := omega) only [eS_r, eS_o, bE_l, bE_r, stY, tmX0_0, hE_0]) rfl rfl rfl (Nat.ble_eq_true_of_le (by show 1 + 46 * i + 1 + 45 ≤ 231; omega)) (Nat.ble_eq_true_of_le (by show 5 + 258 * i + 6 + 252 ≤ 1295; omega)) rfl ?_
        refine a_nn (n1 := k + (2 + 46 * i) + 46) (by omega) ?_
        refine a_astq C (k := k + 1) (t0 := 2) (qk := k + (2 + 46 * i)) (ci := 1) (vs := [.ref (b + (k + (2 + 46 * i) + 1)), .ref (b + (k + (2 + 46 * i) + 36)), .ref (b + (k + (2 + 46 * i) + 37)), .int 0, .int 10, .int 30]) (f := (qF i (fun j => b + (k + (2 + 46 * j))))) (sz := 5) (j := i) dX0_init_35 (by omega) (by simp (disch := omega) only [eS_r, eS_o, bE_l, bE_r, stY, tmX0_0, hE_0]) rfl (by omega) (by simp (disch := omega) only [eS_r, eS_o, bE_l, bE_r, stY, tmX0_0, hE_0]) rfl rfl (by omega) (by decide +kernel) ?_
        refine a_iinc C dX0_init_36 rfl (nI_inc _) rfl ?_
        refine a_goto (tgt := 14) C dX0_init_39 rfl ?_
        refine a_cv (n1 := k + (2 + 46 * (i + 1))) (E1 := stY g b k E (i + 1)) (kc1 := 1 + 46 * (i + 1)) (ks1 := 5 + 258 * (i + 1)) (by omega) (by show 1 + 46 * i + 1 + 45 = 1 + 46 * (i + 1); omega) (by show 5 + 258 * i + 6 + 252 = 5 + 258 * (i + 1); omega) (fun q hq => ?_) (ih_14 (i + 1) (by omega))
        by_cases z_0 : q < k
        · simp (disch := omega) only [eS_r, eS_o, bE_l, bE_r, stY]
        by_cases z_1 : q = k + 1
        · subst z_1
          simp (disch := omega) only [eS_r, eS_o, bE_l, bE_r, stY]
          exact congrArg (fun f => (Sum.inl (g.2 2, 5, .inr (.inr (.inr (.inr f)))) : va_E)) (qF_up rfl)
        by_cases z_2 : q < k + (2 + 46 * i)
        · simp (disch := omega) only [eS_r, eS_o, bE_l, bE_r, stY]
        simp (disch := omega) only [eS_r, eS_o, bE_l, bE_r, stY]
        exact (tmX0_h (by omega) (by omega)).symm
  refine a_cv (n1 := k + (2 + 46 * 0)) (E1 := stY g b k E 0) (kc1 := 1 + 46 * 0) (ks1 := 5 + 258 * 0) (by omega) (by show 0 + 1 = 1 + 46 * 0; omega) (by show 0 + 5 = 5 + 258 * 0; omega) (fun q hq => ?_) (loop_14 5 0 rfl)
  by_cases z_0 : q < k
  · simp (disch := omega) only [eS_r, eS_o, bE_l, bE_r, stY]
  by_cases z_1 : q = k
  · subst z_1
    simp (disch := omega) only [eS_r, eS_o, bE_l, bE_r, stY, tmX0_0]
  obtain rfl : q = k + 1 := by omega
  simp (disch := omega) only [eS_r, eS_o, bE_l, bE_r, stY]
  exact congrArg (fun f => (Sum.inl (g.2 2, 5, .inr (.inr (.inr (.inr f)))) : va_E)) qF_0
