/-! ===== History ===== -/
theorem st_up {b c j : Nat} {f : Nat → Int32} {y : Int32} : va_up (fun i => some (b + (c + (2 + 46 * (f i).toNatClampNeg)))) j (some (b + (c + (2 + 46 * y.toNatClampNeg)))) = fun i => some (b + (c + (2 + 46 * (upd f j y i).toNatClampNeg))) := by
  funext i
  by_cases h : i = j
  · simp [va_up, upd, h]
  · simp [va_up, upd, h]
def hyPi (v : mV) (k : Nat) : Prop := ∀ j, j < 5 → (v (k + 1) j).toNatClampNeg < 5
def hyPrep (v : mV) (k h : Nat) : mV := if v k 1 < 0 then v else if v k 1 < 5 then cpB v (k + (2 + 46 * (v (k + 1) (v k 1).toNatClampNeg).toNatClampNeg)) h 0 46 else v
def hyRest (v : mV) (k h : Nat) : mV := if 0 < v k 1 then (if 5 < v k 1 then v else cpB (u2 v k 1 (v k 1 - 1)) h (k + (2 + 46 * (v (k + 1) (v k 1 - 1).toNatClampNeg).toNatClampNeg)) 0 46) else v
def hyRot (k : Nat) : Nat → Nat → mV → mV
  | 0, _, v => v
  | r + 1, i, v => hyRot k r (i + 1) (u2 (u2 v (k + 1) i (v (k + 1) (i + 1))) (k + 1) (i + 1) (v (k + 1) i))
def hyDrop (v : mV) (k : Nat) : mV := u2 (hyRot k 4 0 v) k 1 4
def hyKeep (v : mV) (k : Nat) : mV := if 4 < v k 1 + 1 then hyDrop (u2 v k 1 (v k 1 + 1)) k else u2 v k 1 (v k 1 + 1)
theorem hyPi_swap {w : mV} {k i : Nat} (hi : i < 4) (h : hyPi w k) : hyPi (u2 (u2 w (k + 1) i (w (k + 1) (i + 1))) (k + 1) (i + 1) (w (k + 1) i)) k := by
  intro j hj
  rw [u2_r]
  by_cases h1 : j = i + 1
  · subst h1
    rw [upd_r]
    exact h i (by omega)
  · rw [upd_o h1, u2_r]
    by_cases h2 : j = i
    · subst h2
      rw [upd_r]
      exact h (j + 1) (by omega)
    · rw [upd_o h2]
      exact h j hj
theorem i32_pos {x : Int32} (h0 : 0 < x) (h5 : ¬ 5 < x) : ∃ j, j < 5 ∧ x = nI (j + 1) := by
  obtain ⟨j, hj, rfl⟩ := nI_of2 (x := x) (n := 5) (M := 5) (by decide +kernel) (fun z => absurd (Int32.lt_trans z h0) (by simp)) (Int32.not_lt.mp h5)
  have h1 := (na_lt kn_0 rfl (by omega) (by omega)).mp h0
  exact ⟨j - 1, by omega, by rw [show j - 1 + 1 = j by omega]⟩
def hB (v : mV) (o : Nat) : Prop := ∀ i, i < 8 → (v (o + (38 + i)) 0 = 0 ∨ v (o + (38 + i)) 0 = 1) ∧ (v (o + (38 + i)) 7 = 0 ∨ v (o + (38 + i)) 7 = 1)
theorem hB_of {v w : mV} {o : Nat} (h : hB v o) (hw : ∀ i, i < 8 → w (o + (38 + i)) = v (o + (38 + i))) : hB w o := fun i hi => by rw [hw i hi]; exact h i hi
set_option maxRecDepth 100000 in
set_option maxHeartbeats 4000000 in
theorem c_X0_prepare {g : mG} {l : Launch} {tpl : mT} {b n : Nat} {v : mV} (k : Nat) (hy : isY g tpl b n k) (h : Nat) (hh : isH g tpl b n h) (hd : h + 46 ≤ k ∨ k + 232 ≤ h) (hπ : hyPi v k) (hb : hB v h) : CT g l tpl b n yX0_prepare cX0_prepare 2 none rm_X0_prepare [.ref (b + k), .ref (b + h)] v (pV (hyPrep v k h)) := by
  refine CT.introV [some (.ref (b + k)), some (.ref (b + h))] (own := RX0) (by decide +kernel) rfl rfl rfl rfl ?_
  intro p e s m args below meth c Q C hE
  refine r_aload_n C dX0_prepare_0 rfl ?_
  refine gf_X0_18 C dX0_prepare_1 hy.1 hy.k0 ?_
  refine r_if_lt (tgt := 32) C dX0_prepare_4 rfl (fun c_4 => ?_) (fun c_4 => ?_)
  · skip
    exact hE _ _ _ dX0_prepare_32 (And.intro rfl (by simp [hyPrep, c_4]))
  · skip
    refine r_aload_n C dX0_prepare_7 rfl ?_
    refine gf_X0_18 C dX0_prepare_8 hy.1 hy.k0 ?_
    refine r_aload_n C dX0_prepare_11 rfl ?_
    refine gf_X0_11 C dX0_prepare_12 hy.1 hy.k0 ?_
    refine r_alen C dX0_prepare_15 hy.2.1 rfl (hy.k (by decide)) kn_5.symm ?_
    refine r_icmp_ge (tgt := 32) C dX0_prepare_16 rfl (fun c_16 => ?_) (fun c_16 => ?_)
    · skip
      exact hE _ _ _ dX0_prepare_32 (And.intro rfl (by simp [hyPrep, c_4, c_16]))
    · skip
      refine r_aload_n C dX0_prepare_19 rfl ?_
      refine gf_X0_11 C dX0_prepare_20 hy.1 hy.k0 ?_
      refine r_aload_n C dX0_prepare_23 rfl ?_
      refine gf_X0_18 C dX0_prepare_24 hy.1 hy.k0 ?_
      obtain ⟨j, hj, ej⟩ := na_of kn_5 (by decide) c_4 c_16
      have nc : (v k 1).toNatClampNeg = j := by rw [ej]; exact nI_clamp (by omega)
      have hp := hπ j hj
      refine r_aaldD (t0 := 2) C dX0_prepare_27 hy.2.1 rfl (hy.k (by decide)) (j := j) ej hj rfl rfl ?_
      refine r_aload_n C dX0_prepare_28 rfl ?_
      refine cvV_X0_22 C dX0_prepare_29 (c_X1_copyFrom _ h (hy.2.2.1 _ hp) hh (by omega) hb) (hy.2.2.1 _ (hπ j hj)).1 (hy.2.2.1 _ (hπ j hj)).k0 ⟨rfl, rfl⟩ rfl rfl rfl ?_
      exact hE _ _ _ dX0_prepare_32 (And.intro rfl (by simp [hyPrep, c_4, c_16, nc]))
set_option maxRecDepth 100000 in
set_option maxHeartbeats 4000000 in
theorem c_X0_restore {g : mG} {l : Launch} {tpl : mT} {b n : Nat} {v : mV} (k : Nat) (hy : isY g tpl b n k) (h : Nat) (hh : isH g tpl b n h) (hd : h + 46 ≤ k ∨ k + 232 ≤ h) (hπ : hyPi v k) (hb : ∀ q, q < 5 → hB v (k + (2 + 46 * q))) : CT g l tpl b n yX0_restore cX0_restore 2 none rm_X0_restore [.ref (b + k), .ref (b + h)] v (pV (hyRest v k h)) := by
  refine CT.introV [some (.ref (b + k)), some (.ref (b + h))] (own := RX0) (by decide +kernel) rfl rfl rfl rfl ?_
  intro p e s m args below meth c Q C hE
  refine r_aload_n C dX0_restore_0 rfl ?_
  refine gf_X0_18 C dX0_restore_1 hy.1 hy.k0 ?_
  refine r_if_le (tgt := 42) C dX0_restore_4 rfl (fun c_4 => ?_) (fun c_4 => ?_)
  · skip
    exact hE _ _ _ dX0_restore_42 (And.intro rfl (by simp [hyRest, c_4]))
  · skip
    refine r_aload_n C dX0_restore_7 rfl ?_
    refine gf_X0_18 C dX0_restore_8 hy.1 hy.k0 ?_
    refine r_aload_n C dX0_restore_11 rfl ?_
    refine gf_X0_11 C dX0_restore_12 hy.1 hy.k0 ?_
    refine r_alen C dX0_restore_15 hy.2.1 rfl (hy.k (by decide)) kn_5.symm ?_
    refine r_icmp_gt (tgt := 42) C dX0_restore_16 rfl (fun c_16 => ?_) (fun c_16 => ?_)
    · skip
      exact hE _ _ _ dX0_restore_42 (And.intro rfl (by simp [hyRest, c_4, c_16]))
    · skip
      obtain ⟨j, hj, ej⟩ := i32_pos c_4 c_16
      have ek : v k 1 - 1 = nI j := by rw [ej]; exact nI_pred j
      have nc : (v k 1 - 1).toNatClampNeg = j := by rw [ek]; exact nI_clamp (by omega)
      have hp := hπ j hj
      have hπ2 : hyPi (u2 v k 1 (v k 1 - 1)) k := fun i hi => by rw [u2_o (by omega)]; exact hπ i hi
      refine r_aload_n C dX0_restore_19 rfl ?_
      refine r_dup C dX0_restore_20 rfl ?_
      refine gf_X0_18 C dX0_restore_21 hy.1 hy.k0 ?_
      refine r_iconst C dX0_restore_24 ic_1 ?_
      refine r_isub C dX0_restore_25 ?_
      refine pf_X0_18 C dX0_restore_26 hy.1 hy.k0 ?_
      refine r_aload_n C dX0_restore_29 rfl ?_
      refine r_aload_n C dX0_restore_30 rfl ?_
      refine gf_X0_11 C dX0_restore_31 hy.1 hy.k0 ?_
      refine r_aload_n C dX0_restore_34 rfl ?_
      refine gf_X0_18 C dX0_restore_35 hy.1 hy.k0 ?_
      refine r_aaldD (t0 := 2) C dX0_restore_38 hy.2.1 rfl (hy.k (by decide)) (j := j) (by rw [u2_r, upd_r]; exact ek) hj rfl rfl ?_
      simp only [show (u2 v k 1 (v k 1 - 1) (k + 1)) = v (k + 1) from u2_o (by omega)]
      refine cvV_X0_22 C dX0_restore_39 (c_X1_copyFrom h _ hh (hy.2.2.1 _ hp) (by omega) (hB_of (hb _ hp) (fun i hi => u2_o (by omega)))) hh.1 hh.k0 ⟨rfl, rfl⟩ rfl rfl rfl ?_
      exact hE _ _ _ dX0_restore_42 (And.intro rfl (by simp [hyRest, c_4, c_16, nc]))
set_option maxRecDepth 100000 in
set_option maxHeartbeats 4000000 in
theorem c_X0_dropOldest {g : mG} {l : Launch} {tpl : mT} {b n : Nat} {v : mV} (k : Nat) (hy : isY g tpl b n k) (hπ : hyPi v k) : CT g l tpl b n yX0_dropOldest cX0_dropOldest 3 none rm_X0_dropOldest [.ref (b + k)] v (pV (hyDrop v k)) := by
  refine CT.introV [some (.ref (b + k)), none, none] (own := RX0) (by decide +kernel) rfl rfl rfl rfl ?_
  intro p e s m args below meth c Q C hE
  refine r_iconst C dX0_dropOldest_0 ic_0 ?_
  refine r_istore_n C dX0_dropOldest_1 rfl rfl ?_
  have loop_2 : ∀ (r : Nat) (i : Nat) (w : mV) (z : Option Value), (i + r = 4) → (hyPi w k) → (hyRot k r i w = hyRot k 4 0 v) → WM g p l e rm_X0_dropOldest s m args below meth c Q tpl b n w 2 [some (.ref (b + k)), some (.int (nI i)), z] [] := by
    intro r
    induction r with
    | zero =>
      intro i w z hi hw hR
      refine r_iload_n C dX0_dropOldest_2 rfl ?_
      refine r_iconst C dX0_dropOldest_3 ic_1 ?_
      refine r_iadd C dX0_dropOldest_4 ?_
      refine r_aload_n C dX0_dropOldest_5 rfl ?_
      refine gf_X0_11 C dX0_dropOldest_6 hy.1 hy.k0 ?_
      refine r_alen C dX0_dropOldest_9 hy.2.1 rfl (hy.k (by decide)) kn_5.symm ?_
      refine r_icmp_ge (tgt := 49) C dX0_dropOldest_10 rfl (fun c_10 => ?_) (fun c_10 => ?_)
      · skip
        refine r_aload_n C dX0_dropOldest_49 rfl ?_
        refine r_iconst C dX0_dropOldest_50 ic_4 ?_
        refine pf_X0_18 C dX0_dropOldest_51 hy.1 hy.k0 ?_
        exact hE _ _ _ dX0_dropOldest_54 (And.intro rfl (by rw [hyDrop, ← hR]; simp [hyRot]))
      · exact absurd c_10 (by rw [nI_1]; exact nI_nlt (a := i + 1) (b := 5) (by omega) (by omega))
    | succ r ih_2 =>
      intro i w z hi hw hR
      refine r_iload_n C dX0_dropOldest_2 rfl ?_
      refine r_iconst C dX0_dropOldest_3 ic_1 ?_
      refine r_iadd C dX0_dropOldest_4 ?_
      refine r_aload_n C dX0_dropOldest_5 rfl ?_
      refine gf_X0_11 C dX0_dropOldest_6 hy.1 hy.k0 ?_
      refine r_alen C dX0_dropOldest_9 hy.2.1 rfl (hy.k (by decide)) kn_5.symm ?_
      refine r_icmp_ge (tgt := 49) C dX0_dropOldest_10 rfl (fun c_10 => ?_) (fun c_10 => ?_)
      · exact absurd (by rw [nI_1]; exact nI_lt (a := i + 1) (b := 5) (by omega) (by omega)) c_10
      · skip
        refine r_aload_n C dX0_dropOldest_13 rfl ?_
        refine gf_X0_11 C dX0_dropOldest_14 hy.1 hy.k0 ?_
        refine r_iload_n C dX0_dropOldest_17 rfl ?_
        refine r_aaldD (t0 := 2) C dX0_dropOldest_18 hy.2.1 rfl (hy.k (by decide)) (j := i) rfl (by omega) rfl rfl ?_
        refine r_astore_n C dX0_dropOldest_19 rfl rfl ?_
        refine r_aload_n C dX0_dropOldest_20 rfl ?_
        refine gf_X0_11 C dX0_dropOldest_21 hy.1 hy.k0 ?_
        refine r_iload_n C dX0_dropOldest_24 rfl ?_
        refine r_aload_n C dX0_dropOldest_25 rfl ?_
        refine gf_X0_11 C dX0_dropOldest_26 hy.1 hy.k0 ?_
        refine r_iload_n C dX0_dropOldest_29 rfl ?_
        refine r_iconst C dX0_dropOldest_30 ic_1 ?_
        refine r_iadd C dX0_dropOldest_31 ?_
        refine r_aaldD (t0 := 2) C dX0_dropOldest_32 hy.2.1 rfl (hy.k (by decide)) (j := (i + 1)) (na_add rfl kn_1) (by omega) rfl rfl ?_
        refine r_aast (t0 := 2) (q := (RX1, TX1, 6)) (y := w (k + 1) (i + 1)) C dX0_dropOldest_33 hy.2.1 rfl (hy.k (by decide)) (j := i) rfl (by omega) rfl (hy.2.2.1 _ (hw (i + 1) (by omega))).1 (hy.2.2.1 _ (hw (i + 1) (by omega))).k0 rfl (fun _ => st_up) ?_
        refine r_aload_n C dX0_dropOldest_34 rfl ?_
        refine gf_X0_11 C dX0_dropOldest_35 hy.1 hy.k0 ?_
        refine r_iload_n C dX0_dropOldest_38 rfl ?_
        refine r_iconst C dX0_dropOldest_39 ic_1 ?_
        refine r_iadd C dX0_dropOldest_40 ?_
        refine r_aload_n C dX0_dropOldest_41 rfl ?_
        refine r_aast (t0 := 2) (q := (RX1, TX1, 6)) (y := w (k + 1) i) C dX0_dropOldest_42 hy.2.1 rfl (hy.k (by decide)) (j := (i + 1)) (na_add rfl kn_1) (by omega) rfl (hy.2.2.1 _ (hw i (by omega))).1 (hy.2.2.1 _ (hw i (by omega))).k0 rfl (fun _ => st_up) ?_
        refine r_iinc C dX0_dropOldest_43 rfl (nI_inc _) rfl ?_
        refine r_goto (tgt := 2) C dX0_dropOldest_46 rfl ?_
        exact ih_2 (i + 1) _ _ (by omega) (hyPi_swap (by omega) hw) (by rw [← hR, hyRot])
  exact loop_2 4 0 v none rfl hπ rfl
set_option maxRecDepth 100000 in
set_option maxHeartbeats 4000000 in
theorem c_X0_keepPrepared {g : mG} {l : Launch} {tpl : mT} {b n : Nat} {v : mV} (k : Nat) (hy : isY g tpl b n k) (hπ : hyPi v k) : CT g l tpl b n yX0_keepPrepared cX0_keepPrepared 1 none rm_X0_keepPrepared [.ref (b + k)] v (pV (hyKeep v k)) := by
  refine CT.introV [some (.ref (b + k))] (own := RX0) (by decide +kernel) rfl rfl rfl rfl ?_
  intro p e s m args below meth c Q C hE
  refine r_aload_n C dX0_keepPrepared_0 rfl ?_
  refine r_dup C dX0_keepPrepared_1 rfl ?_
  refine gf_X0_18 C dX0_keepPrepared_2 hy.1 hy.k0 ?_
  refine r_iconst C dX0_keepPrepared_5 ic_1 ?_
  refine r_iadd C dX0_keepPrepared_6 ?_
  refine pf_X0_18 C dX0_keepPrepared_7 hy.1 hy.k0 ?_
  refine r_aload_n C dX0_keepPrepared_10 rfl ?_
  refine gf_X0_18 C dX0_keepPrepared_11 hy.1 hy.k0 ?_
  rw [u2_r, upd_r]
  refine r_iconst C dX0_keepPrepared_14 ic_4 ?_
  refine r_icmp_le (tgt := 22) C dX0_keepPrepared_15 rfl (fun c_15 => ?_) (fun c_15 => ?_)
  · skip
    exact hE _ _ _ dX0_keepPrepared_22 (And.intro rfl (by simp [hyKeep, c_15]))
  · skip
    refine r_aload_n C dX0_keepPrepared_18 rfl ?_
    refine cvV_X0_26 C dX0_keepPrepared_19 (c_X0_dropOldest k hy (fun j hj => by rw [u2_o (by omega)]; exact hπ j hj)) hy.1 hy.k0 ⟨rfl, rfl⟩ rfl rfl rfl ?_
    exact hE _ _ _ dX0_keepPrepared_22 (And.intro rfl (by simp [hyKeep, c_15]))
