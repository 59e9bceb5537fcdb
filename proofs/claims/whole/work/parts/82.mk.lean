abbrev rm_X7_init : Room := { frames := 1, cells := 0, slots := 0, locals := 12 }
abbrev rm_X8_init : Room := { frames := 1, cells := 0, slots := 0, locals := 12 }
abbrev rm_X9_init : Room := { frames := 1, cells := 0, slots := 0, locals := 12 }
abbrev rm_X2_init : Room := { frames := 1, cells := 0, slots := 0, locals := 12 }
abbrev rm_X3_init : Room := { frames := 2, cells := 1, slots := 2, locals := 32 }
abbrev rm_X4_init : Room := { frames := 2, cells := 2, slots := 7, locals := 32 }
abbrev rm_X5_init : Room := { frames := 3, cells := 34, slots := 116, locals := 52 }
abbrev rm_X1_init : Room := { frames := 4, cells := 45, slots := 252, locals := 73 }
abbrev rm_X6_init : Room := { frames := 1, cells := 2, slots := 83, locals := 12 }
abbrev rm_X0_init : Room := { frames := 5, cells := 231, slots := 1295, locals := 94 }
abbrev rm_X10_init : Room := { frames := 6, cells := 327, slots := 1903, locals := 115 }
abbrev rm_X11_init : Room := { frames := 1, cells := 6, slots := 1686, locals := 12 }
/-! ===== the constructors: small ones ===== -/
def qF (i : Nat) (F : Nat → Nat) : Nat → Option Nat := fun j => if j < i then some (F j) else none
theorem qF_0 {F : Nat → Nat} : (fun _ => none) = qF 0 F := by
  funext j
  simp [qF]
theorem qF_up {i x : Nat} {F : Nat → Nat} (hx : x = F i) : va_up (qF i F) i (some x) = qF (i + 1) F := by
  subst hx
  funext j
  unfold va_up qF
  by_cases h : j = i
  · subst h
    simp
  · rw [if_neg h]
    by_cases h2 : j < i
    · rw [if_pos h2, if_pos (by omega)]
    · rw [if_neg h2, if_neg (by omega)]
abbrev aQ (g : mG) (t sz i : Nat) (F : Nat → Nat) : va_E := .inl (g.2 t, sz, .inr (.inr (.inr (.inr (qF i F)))))
theorem va_cg {D : va_G} {cl : List vw_C} {a : Nat} {x y : va_E} (h : x = y) : va_at D cl (a, x) = va_at D cl (a, y) := by rw [h]
theorem va_cq {g : mG} {D : va_G} {cl : List vw_C} {a t sz i : Nat} {F : Nat → Nat} {x y : va_E} (hi : sz = i) (hx : x = aQ g t sz i F) (hy : y = tRefs g t sz F (fun _ => 0)) : va_at D cl (a, x) = va_at D cl (a, y) := by
  subst hx hy hi
  funext H
  show (H[a]? = some (vp_cell (g.2 t) (sz, .inr (.inr (.inr (.inr (qF sz F))))))) = (H[a]? = some (vp_cell (g.2 t) (sz, .inr (.inr (.inr (.inr (fun i => some (F i))))))))
  rw [vp_cell_q, vp_cell_q, arrV_congr (fun j hj => by rw [show qF sz F j = some (F j) from if_pos hj])]
section ROWSC
variable {g : mG} {p : Program} {l : Launch} {e : Env} {R : Room} {s : State} {m : MethodId} {args : Array Value} {below : List Frame} {meth : Method} {c : Code} {Q : State → Prop} {b n : Nat} {E : Nat → va_E} {kc ks : Nat} {pc : Nat} {L : List (Option Value)} {st : List Value} {own : String} {cc : ByteArray}
theorem a_nn {n1 : Nat} (h : n = n1) (kk : WA g p l e R s m args below meth c Q b n1 E kc ks pc L st) : WA g p l e R s m args below meth c Q b n E kc ks pc L st := by
  subst h
  exact kk
theorem a_cv {n1 kc1 ks1 : Nat} {E1 : Nat → va_E} (hn : n = n1) (hk : kc = kc1) (hs : ks = ks1) (hE : ∀ q, q < n → E q = E1 q) (kk : WA g p l e R s m args below meth c Q b n1 E1 kc1 ks1 pc L st) : WA g p l e R s m args below meth c Q b n E kc ks pc L st := by
  subst hn hk hs
  exact a_conv hE kk
theorem a_cvA {E1 : Nat → va_E} (hE : ∀ q, q < n → va_at g.1 vwCl (b + q, E q) = va_at g.1 vwCl (b + q, E1 q)) (kk : WA g p l e R s m args below meth c Q b n E1 kc ks pc L st) : WA g p l e R s m args below meth c Q b n E kc ks pc L st := fun H locs ls hz hP hS hl hm => by
  refine kk H locs ls hz (fun k q hq => ?_) hS hl hm
  obtain ⟨hk, rfl⟩ := mE_of hq
  rw [← hE k hk]
  exact hP k _ (mE_get hk rfl)
theorem a_pfF (C : cxA g p s m args meth c own cc b) {ref Cn : String} {T : u_T} {N ci index k : Nat} {fs fs1 : List Value} (hin : ∀ w ∈ u_ws Cn T N, w ∈ wsL_law) (ty0 : Nat → FieldType) (hty : ∀ k, k < N → parseFieldDescriptor (T k).2.2.1 = some (ty0 k)) (hnm : ∀ a, a < N → ∀ b, b < N → a ≠ b → (T a).2.1 ≠ (T b).2.1) (hc : vwCl[ci]? = some (Cn, T, N)) (j : Nat) (hj : j < N) (hlink : Cond.fieldLink own index ref (T j).2.1 (T j).2.2.1 ∈ wsL_law) (hsame : (T j).1 = ref) (hfin : (T j).2.2.2 = true) (hown : (T j).1 = own) {y : Value} (hn : narrow (ty0 j) y = y) (hfit : fits (ty0 j) y = true) (hd : decode cc pc = .ok (.putfield index, 3)) (hk : k < n) (ht : E k = .inr (ci, fs)) (hl0 : j < fs.length) (h1 : fs.set j y = fs1) (kk : WA g p l e R s m args below meth c Q b n (eS E k (.inr (ci, fs1))) kc ks (pc + 3) L st) : WA g p l e R s m args below meth c Q b n E kc ks pc L (y :: .ref (b + k) :: st) := by
  subst h1
  exact a_putF C hin ty0 hty hnm hc j hj hlink hsame hfin hown hn hfit hd hk ht hl0 kk
theorem a_pf (C : cxA g p s m args meth c own cc b) {ref Cn : String} {T : u_T} {N ci index k : Nat} {fs fs1 : List Value} (hin : ∀ w ∈ u_ws Cn T N, w ∈ wsL_law) (ty0 : Nat → FieldType) (hty : ∀ k, k < N → parseFieldDescriptor (T k).2.2.1 = some (ty0 k)) (hnm : ∀ a, a < N → ∀ b, b < N → a ≠ b → (T a).2.1 ≠ (T b).2.1) (hc : vwCl[ci]? = some (Cn, T, N)) (j : Nat) (hj : j < N) (hlink : Cond.fieldLink own index ref (T j).2.1 (T j).2.2.1 ∈ wsL_law) (hsame : (T j).1 = ref) (hfin : (T j).2.2.2 = false) {y : Value} (hn : narrow (ty0 j) y = y) (hfit : fits (ty0 j) y = true) (hd : decode cc pc = .ok (.putfield index, 3)) (hk : k < n) (ht : E k = .inr (ci, fs)) (hl0 : j < fs.length) (h1 : fs.set j y = fs1) (kk : WA g p l e R s m args below meth c Q b n (eS E k (.inr (ci, fs1))) kc ks (pc + 3) L st) : WA g p l e R s m args below meth c Q b n E kc ks pc L (y :: .ref (b + k) :: st) := by
  subst h1
  exact a_put C hin ty0 hty hnm hc j hj hlink hsame hfin hn hfit hd hk ht hl0 kk
end ROWSC
def tmX3 (b k : Nat) : Nat → va_E := fun q => if q = k then .inr (3, [.ref (b + (k + 1)), .int 0, .int 0, .int 0]) else .inr (7, [.int 0, .int 0])
theorem tmX3_0 {b k : Nat} : tmX3 b k k = .inr (3, [.ref (b + (k + 1)), .int 0, .int 0, .int 0]) := if_pos rfl
theorem tmX3_1 {b k : Nat} : tmX3 b k (k + 1) = .inr (7, [.int 0, .int 0]) := if_neg (by omega)
def tmX4 (g : mG) (b k : Nat) : Nat → va_E := fun q => if q = k then .inr (4, [.ref (b + (k + 1)), .ref (b + (k + 2)), .int 0, .int 0]) else if q = k + 1 then .inr (7, [.int 0, .int 0]) else .inl (g.2 0, 5, .inl (fun _ => 0))
theorem tmX4_0 {g : mG} {b k : Nat} : tmX4 g b k k = .inr (4, [.ref (b + (k + 1)), .ref (b + (k + 2)), .int 0, .int 0]) := if_pos rfl
theorem tmX4_1 {g : mG} {b k : Nat} : tmX4 g b k (k + 1) = .inr (7, [.int 0, .int 0]) := by
  unfold tmX4
  rw [if_neg (by omega), if_pos rfl]
theorem tmX4_2 {g : mG} {b k : Nat} : tmX4 g b k (k + 2) = .inl (g.2 0, 5, .inl (fun _ => 0)) := by
  unfold tmX4
  rw [if_neg (by omega), if_neg (by omega)]
set_option maxRecDepth 100000 in
set_option maxHeartbeats 4000000 in
theorem k_X7_init {g : mG} {l : Launch} {b : Nat} (k : Nat) : CA g l b yX7_init cX7_init 1 rm_X7_init (k) 1 (.inr (7, [.int 0, .int 0])) (fun _ => .inr (7, [.int 0, .int 0])) := by
  refine CA.intro [some (.ref (b + k))] (by decide +kernel) rfl rfl rfl rfl ?_
  intro E p e s m args below meth c Q C hE
  refine a_aload_n C dX7_init_0 rfl ?_
  refine a_objInit C kw_3_20 dX7_init_1 rfl rfl ?_
  exact hE _ _ _ _ _ _ dX7_init_4 rfl rfl rfl (fun _ _ => rfl)
set_option maxRecDepth 100000 in
set_option maxHeartbeats 4000000 in
theorem k_X8_init {g : mG} {l : Launch} {b : Nat} (k : Nat) : CA g l b yX8_init cX8_init 1 rm_X8_init (k) 1 (.inr (8, [.int 0, .int 0, .int 0])) (fun _ => .inr (8, [.int 0, .int 0, .int 0])) := by
  refine CA.intro [some (.ref (b + k))] (by decide +kernel) rfl rfl rfl rfl ?_
  intro E p e s m args below meth c Q C hE
  refine a_aload_n C dX8_init_0 rfl ?_
  refine a_objInit C kw_4_6 dX8_init_1 rfl rfl ?_
  exact hE _ _ _ _ _ _ dX8_init_4 rfl rfl rfl (fun _ _ => rfl)
set_option maxRecDepth 100000 in
set_option maxHeartbeats 4000000 in
theorem k_X9_init {g : mG} {l : Launch} {b : Nat} (k : Nat) : CA g l b yX9_init cX9_init 1 rm_X9_init (k) 1 (.inr (9, [.int 0, .int 0, .int 0, .int 0, .int 0, .int 0, .int 0, .int 0, .int 0, .int 0])) (fun _ => .inr (9, [.int 0, .int 0, .int 0, .int 0, .int 0, .int 0, .int 0, .int 0, .int 0, .int 0])) := by
  refine CA.intro [some (.ref (b + k))] (by decide +kernel) rfl rfl rfl rfl ?_
  intro E p e s m args below meth c Q C hE
  refine a_aload_n C dX9_init_0 rfl ?_
  refine a_objInit C kw_4_9 dX9_init_1 rfl rfl ?_
  exact hE _ _ _ _ _ _ dX9_init_4 rfl rfl rfl (fun _ _ => rfl)
set_option maxRecDepth 100000 in
set_option maxHeartbeats 4000000 in
theorem k_X2_init {g : mG} {l : Launch} {b : Nat} (k : Nat) : CA g l b yX2_init cX2_init 1 rm_X2_init (k) 1 (.inr (2, [.int 0, .int 0, .int 0, .int 0, .int 0, .int 0, .int 0, .int 0, .int 0, .int 0, .int 0, .int 0, .int 0, .int 0])) (fun _ => .inr (2, [.int 0, .int 0, .int 0, .int 0, .int 0, .int 0, .int 0, .int 0, .int 0, .int 0, .int 0, .int 0, .int 0, .int 0])) := by
  refine CA.intro [some (.ref (b + k))] (by decide +kernel) rfl rfl rfl rfl ?_
  intro E p e s m args below meth c Q C hE
  refine a_aload_n C dX2_init_0 rfl ?_
  refine a_objInit C kw_4_12 dX2_init_1 rfl rfl ?_
  exact hE _ _ _ _ _ _ dX2_init_4 rfl rfl rfl (fun _ _ => rfl)
set_option maxRecDepth 100000 in
set_option maxHeartbeats 4000000 in
theorem k_X3_init {g : mG} {l : Launch} {b : Nat} (k : Nat) : CA g l b yX3_init cX3_init 1 rm_X3_init (k) 2 (.inr (3, [.null, .int 0, .int 0, .int 0])) (tmX3 b k) := by
  refine CA.intro [some (.ref (b + k))] (by decide +kernel) rfl rfl rfl rfl ?_
  intro E p e s m args below meth c Q C hE
  refine a_aload_n C dX3_init_0 rfl ?_
  refine a_objInit C kw_3_13 dX3_init_1 rfl rfl ?_
  refine a_aload_n C dX3_init_4 rfl ?_
  refine a_new C (ci := 7) (fs := [.int 0, .int 0]) inlX7 tyX7 tyX7_ok kw_3_14 kw_3_15 kw_3_16 rfl (fun j hj => match j, hj with | 0, _ => rfl | 1, _ => rfl | (j + 2), h => absurd h (by omega)) rfl rfl dX3_init_5 ?_
  refine a_dup C dX3_init_8 rfl ?_
  refine a_callIN (host := RX10) C (k := k + 1) (List.mem_of_getElem? (i := 1) rfl) kw_3_18 kw_3_16 kw_3_19 ⟨by decide +kernel, by decide +kernel⟩ (by decide +kernel) rfl dX3_init_9 (k_X7_init (k + 1)) rfl (by simp (disch := omega) only [eS_r, eS_o, bE_l, bE_r]) rfl rfl rfl rfl rfl rfl ?_
  refine a_nn (n1 := k + 2) (by omega) ?_
  refine a_pfF C (k := k) (ci := 3) (fs := [.null, .int 0, .int 0, .int 0]) (fs1 := [.ref (b + (k + 1)), .int 0, .int 0, .int 0]) inlX3 tyX3 tyX3_ok nmX3 rfl 0 (by decide) kw_3_17 rfl rfl rfl rfl rfl dX3_init_12 (by omega) (by simp (disch := omega) only [eS_r, eS_o, bE_l, bE_r]) (Nat.le_of_ble_eq_true rfl) rfl ?_
  refine hE _ _ _ _ _ _ dX3_init_15 rfl rfl rfl (fun q hq => ?_)
  by_cases z_0 : q < k
  · simp (disch := omega) only [eS_r, eS_o, bE_l, bE_r]
  by_cases z_1 : q = k
  · subst z_1
    simp (disch := omega) only [eS_r, eS_o, bE_l, bE_r, tmX3_0]
  obtain rfl : q = k + 1 := by omega
  simp (disch := omega) only [eS_r, eS_o, bE_l, bE_r, tmX3_1]
set_option maxRecDepth 100000 in
set_option maxHeartbeats 4000000 in
theorem k_X4_init {g : mG} {l : Launch} {b : Nat} (k : Nat) : CA g l b yX4_init cX4_init 1 rm_X4_init (k) 3 (.inr (4, [.null, .null, .int 0, .int 0])) (tmX4 g b k) := by
  refine CA.intro [some (.ref (b + k))] (by decide +kernel) rfl rfl rfl rfl ?_
  intro E p e s m args below meth c Q C hE
  refine a_aload_n C dX4_init_0 rfl ?_
  refine a_objInit C kw_3_23 dX4_init_1 rfl rfl ?_
  refine a_aload_n C dX4_init_4 rfl ?_
  refine a_new C (ci := 7) (fs := [.int 0, .int 0]) inlX7 tyX7 tyX7_ok kw_4_0 kw_3_15 kw_3_16 rfl (fun j hj => match j, hj with | 0, _ => rfl | 1, _ => rfl | (j + 2), h => absurd h (by omega)) rfl rfl dX4_init_5 ?_
  refine a_dup C dX4_init_8 rfl ?_
  refine a_callIN (host := RX10) C (k := k + 1) (List.mem_of_getElem? (i := 3) rfl) kw_3_18 kw_3_16 kw_3_19 ⟨by decide +kernel, by decide +kernel⟩ (by decide +kernel) rfl dX4_init_9 (k_X7_init (k + 1)) rfl (by simp (disch := omega) only [eS_r, eS_o, bE_l, bE_r]) rfl rfl rfl rfl rfl rfl ?_
  refine a_nn (n1 := k + 2) (by omega) ?_
  refine a_pfF C (k := k) (ci := 4) (fs := [.null, .null, .int 0, .int 0]) (fs1 := [.ref (b + (k + 1)), .null, .int 0, .int 0]) inlX4 tyX4 tyX4_ok nmX4 rfl 0 (by decide) kw_4_1 rfl rfl rfl rfl rfl dX4_init_12 (by omega) (by simp (disch := omega) only [eS_r, eS_o, bE_l, bE_r]) (Nat.le_of_ble_eq_true rfl) rfl ?_
  refine a_aload_n C dX4_init_15 rfl ?_
  refine a_iconst C dX4_init_16 ic_5 ?_
  refine a_newa C (ty := .int) (i := 0) (N := 5) (a0 := (5, .inl (fun _ => 0))) rfl (fun _ => rfl) kw_4_2 rfl (fun _ => rfl) (by decide +kernel) rfl (by decide +kernel) rfl rfl dX4_init_17 ?_
  refine a_nn (n1 := k + 3) (by omega) ?_
  refine a_pfF C (k := k) (ci := 4) (fs := [.ref (b + (k + 1)), .null, .int 0, .int 0]) (fs1 := [.ref (b + (k + 1)), .ref (b + (k + 2)), .int 0, .int 0]) inlX4 tyX4 tyX4_ok nmX4 rfl 1 (by decide) kw_4_3 rfl rfl rfl rfl rfl dX4_init_19 (by omega) (by simp (disch := omega) only [eS_r, eS_o, bE_l, bE_r]) (Nat.le_of_ble_eq_true rfl) rfl ?_
  refine hE _ _ _ _ _ _ dX4_init_22 rfl rfl rfl (fun q hq => ?_)
  by_cases z_0 : q < k
  · simp (disch := omega) only [eS_r, eS_o, bE_l, bE_r]
  by_cases z_1 : q = k
  · subst z_1
    simp (disch := omega) only [eS_r, eS_o, bE_l, bE_r, tmX4_0]
  by_cases z_2 : q = k + 1
  · subst z_2
    simp (disch := omega) only [eS_r, eS_o, bE_l, bE_r, tmX4_1]
  obtain rfl : q = k + 2 := by omega
  simp (disch := omega) only [eS_r, eS_o, bE_l, bE_r, tmX4_2]
