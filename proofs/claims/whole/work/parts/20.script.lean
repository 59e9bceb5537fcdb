/-! ===== what stays; reading and doing commands ===== -/
theorem clamp_lt {x y : Int32} {k : Nat} (hk : y = nI k) (hz : k < 2147483648) (h0 : ¬ x < 0) (h : x < y) : x.toNatClampNeg < k := by
  obtain ⟨j, hj, rfl⟩ := na_of hk hz h0 h
  rw [nI_clamp (by omega)]
  exact hj
theorem hsPageP_out {v : mV} {h i q : Nat} {rg w : Int32} (hi : i < 8) (hq : q < h ∨ h + 46 ≤ q) : hsPageP v h i rg w q = v q := by
  unfold hsPageP
  split
  · rw [pgA_o (by omega)]
  · split
    · rename_i h0 h1
      have hw := clamp_lt kn_8 (by decide) h0 h1
      split
      · rw [u2_o (by omega), u2_o (by omega), u2_o (by omega), u2_o (by omega), pgA_o (by omega)]
      · rw [pgA_o (by omega)]
    · rw [pgA_o (by omega)]
theorem hsPage_out {v : mV} {h i q : Nat} {rg : Int32} (hi : i < 8) (hq : q < h ∨ h + 46 ≤ q) : hsPage v h i rg q = v q := hsPageP_out hi hq
theorem hsAge_out {v : mV} {h i q : Nat} {rg : Int32} (hi : i < 8) (hq : q < h ∨ h + 46 ≤ q) : (hsAge v h i rg).2 q = v q := by
  unfold hsAge
  repeat' split
  all_goals simp (disch := omega) only [u2_o]
theorem hsFold_out {v : mV} {h i q : Nat} {x : Int32} (hi : i < 8) (hq : q < h ∨ h + 46 ≤ q) : (hsFold v h i x).2 q = v q := by
  unfold hsFold hsFold0
  repeat' split
  all_goals simp (disch := omega) only [u2_o]
theorem hsNewLp_out {v : mV} {h q : Nat} {c sv : Int32} (hq : q < h ∨ h + 46 ≤ q) : ∀ (r i : Nat), i + r = 8 → (hsNewLp v h c sv r i).2 q = v q
  | 0, i, _ => rfl
  | r + 1, i, hr => by
    unfold hsNewLp
    split
    · show hsPage _ _ _ _ q = v q
      rw [hsPage_out (by omega) hq, u2_o (by omega), inNew_o (by omega)]
    · exact hsNewLp_out hq r (i + 1) (by omega)
theorem hsFoldLp_out {v : mV} {h q : Nat} {c sv : Int32} (hq : q < h ∨ h + 46 ≤ q) : ∀ (r i : Nat), i + r = 8 → (hsFoldLp v h c sv r i).2 q = v q
  | 0, i, _ => hsNewLp_out hq 8 0 rfl
  | r + 1, i, hr => by
    unfold hsFoldLp
    split
    · exact hsFoldLp_out hq r (i + 1) (by omega)
    · split
      · split
        · exact hsFoldLp_out hq r (i + 1) (by omega)
        · show (if _ then _ else _ : mV) q = v q
          split
          · exact hsFold_out (by omega) hq
          · rw [hsPage_out (by omega) hq, hsFold_out (by omega) hq]
      · exact hsFoldLp_out hq r (i + 1) (by omega)
theorem hsAlert_out {v : mV} {h q : Nat} {c sv : Int32} (hq : q < h ∨ h + 46 ≤ q) : (hsAlert v h c sv).2 q = v q := by
  unfold hsAlert
  repeat' split
  all_goals first | rfl | exact hsFoldLp_out hq 8 0 rfl
theorem hsNewLp_1 {v : mV} {h : Nat} {c sv : Int32} : ∀ (r i : Nat), (hsNewLp v h c sv r i).2 (h + 1) = v (h + 1)
  | 0, i => rfl
  | r + 1, i => by
    unfold hsNewLp
    split
    · show hsPage _ _ _ _ (h + 1) = v (h + 1)
      rw [hsPage_1, u2_o (by omega), inNew_o (by omega)]
    · exact hsNewLp_1 r (i + 1)
theorem hsFoldLp_1 {v : mV} {h : Nat} {c sv : Int32} : ∀ (r i : Nat), (hsFoldLp v h c sv r i).2 (h + 1) = v (h + 1)
  | 0, i => hsNewLp_1 8 0
  | r + 1, i => by
    unfold hsFoldLp
    split
    · exact hsFoldLp_1 r (i + 1)
    · split
      · split
        · exact hsFoldLp_1 r (i + 1)
        · show (if _ then _ else _ : mV) (h + 1) = v (h + 1)
          split
          · exact hsFold_1
          · rw [hsPage_1, hsFold_1]
      · exact hsFoldLp_1 r (i + 1)
theorem hsAlert_1 {v : mV} {h : Nat} {c sv : Int32} : (hsAlert v h c sv).2 (h + 1) = v (h + 1) := by
  unfold hsAlert
  repeat' split
  all_goals first | rfl | exact hsFoldLp_1 8 0
theorem hsOpen_lt {v : mV} {h : Nat} {x : Int32} (hx : ¬ hsOpen v h x = 0) : x.toNatClampNeg < 8 := by
  obtain ⟨i, hi, rfl⟩ := hsOpen_of hx
  rw [nI_clamp (by omega)]
  exact hi
theorem hsAck_out {v : mV} {h q : Nat} {x : Int32} (hq : q < h ∨ h + 46 ≤ q) : (hsAck v h x).2 q = v q := by
  unfold hsAck
  split
  · rfl
  · rename_i h0
    have := hsOpen_lt h0
    repeat' split
    all_goals first | rfl | simp (disch := omega) only [u2_o]
theorem hsAck_1 {v : mV} {h : Nat} {x : Int32} : (hsAck v h x).2 (h + 1) = v (h + 1) := by
  unfold hsAck
  repeat' split
  all_goals first | rfl | simp (disch := omega) only [u2_o]
theorem hsClose_out {v : mV} {h q : Nat} {x : Int32} (hq : q < h ∨ h + 46 ≤ q) : (hsClose v h x).2 q = v q := by
  unfold hsClose
  split
  · rfl
  · rename_i h0
    have := hsOpen_lt h0
    show (if _ then _ else _ : mV) q = v q
    split
    · simp (disch := omega) only [u2_o]
    · rename_i h1
      obtain ⟨w, hw, ew⟩ := fIn_of kn_8 (by decide) h1
      have nw : (v (h + (38 + x.toNatClampNeg)) 4).toNatClampNeg = w := by rw [ew]; exact nI_clamp (by omega)
      rw [nw]
      simp (disch := omega) only [u2_o]
theorem hsClose_1 {v : mV} {h : Nat} {x : Int32} : (hsClose v h x).2 (h + 1) = v (h + 1) := by
  unfold hsClose
  split
  · rfl
  · show (if _ then _ else _ : mV) (h + 1) = v (h + 1)
    split <;> simp (disch := omega) only [u2_o]
theorem hsMinLp_out {h q : Nat} {rg : Int32} (hq : q < h ∨ h + 46 ≤ q) : ∀ (r i : Nat) (v : mV), i + r = 8 → hsMinLp h rg r i v q = v q
  | 0, i, v, _ => rfl
  | r + 1, i, v, hr => by
    unfold hsMinLp
    split
    · exact hsMinLp_out hq r (i + 1) v (by omega)
    · split
      · rw [hsMinLp_out hq r (i + 1) _ (by omega), hsAge_out (by omega) hq]
      · rw [hsMinLp_out hq r (i + 1) _ (by omega), hsPage_out (by omega) hq, hsAge_out (by omega) hq]
theorem hsMinLp_1 {h : Nat} {rg : Int32} : ∀ (r i : Nat) (v : mV), hsMinLp h rg r i v (h + 1) = v (h + 1)
  | 0, i, v => rfl
  | r + 1, i, v => by
    unfold hsMinLp
    split
    · exact hsMinLp_1 r (i + 1) v
    · split
      · rw [hsMinLp_1 r (i + 1) _, hsAge_1]
      · rw [hsMinLp_1 r (i + 1) _, hsPage_1, hsAge_1]
theorem hsMins_out {h q : Nat} (hq : q < h ∨ h + 46 ≤ q) : ∀ (r : Nat) (v : mV), hsMins h r v q = v q
  | 0, v => rfl
  | r + 1, v => by
    rw [hsMins, hsMins_out hq r, hsMinute, hsMinLp_out hq 8 0 _ rfl, u2_o (by omega)]
theorem hsMins_1 {h : Nat} : ∀ (r : Nat) (v : mV), hsMins h r v (h + 1) = v (h + 1)
  | 0, v => rfl
  | r + 1, v => by
    rw [hsMins, hsMins_1 r, hsMinute, hsMinLp_1 8 0 _, u2_o (by omega)]
theorem hsPass_out {v : mV} {h q : Nat} {x : Int32} (hq : q < h ∨ h + 46 ≤ q) : (hsPass v h x).2 q = v q := by
  unfold hsPass
  repeat' split
  all_goals first | rfl | exact hsMins_out hq _ _
theorem hsPass_1 {v : mV} {h : Nat} {x : Int32} : (hsPass v h x).2 (h + 1) = v (h + 1) := by
  unfold hsPass
  repeat' split
  all_goals first | rfl | exact hsMins_1 _ _
theorem rsDropLp_out {h q : Nat} {t : Int32} (hq : q < h + 30 ∨ h + 36 ≤ q) : ∀ (r i kp : Nat) (v : mV), kp ≤ i → i + r = 6 → (rsDropLp h t r i kp v).2 q = v q
  | 0, i, kp, v, _, _ => rfl
  | r + 1, i, kp, v, hk, hr => by
    unfold rsDropLp
    split
    · split
      · rw [rsDropLp_out hq r (i + 1) (kp + 1) _ (by omega) (by omega), cpRow_o (by omega)]
      · exact rsDropLp_out hq r (i + 1) kp v (by omega) (by omega)
    · rfl
theorem rsDrop_c {v : mV} {h : Nat} {t : Int32} : ∃ q, q ≤ 6 ∧ rsDrop v h t (h + 1) 5 = nI q := by
  refine ⟨(rsDropLp h t 6 0 0 v).1, by have := rsDropLp_le h t 6 0 0 v (Nat.le_refl 0); omega, ?_⟩
  unfold rsDrop
  rw [u2_r, upd_r]
theorem rsAddStand_out {v : mV} {h q : Nat} {x y t e : Int32} (hq : q < h ∨ h + 46 ≤ q) : (rsAddStand v h x y t e).2 q = v q := by
  have hd : rsDrop v h t q = v q := by
    unfold rsDrop
    rw [u2_o (by omega), rsDropLp_out (by omega) 6 0 0 v (Nat.le_refl 0) rfl]
  unfold rsAddStand
  split
  · exact hd
  · split
    · rename_i h0 h1
      have hw := clamp_lt kn_6 (by decide) h0 h1
      simp (disch := omega) only [u2_o]
      exact hd
    · exact hd
def SQ (v : mV) (h : Nat) : Prop := ∃ q, q ≤ 6 ∧ v (h + 1) 5 = nI q
theorem SQ_of {v w : mV} {h : Nat} (hw : w (h + 1) = v (h + 1)) (hS : SQ v h) : SQ w h := by
  obtain ⟨q, h1, h2⟩ := hS
  exact ⟨q, h1, by rw [hw]; exact h2⟩
theorem rsAddStand_SQ {v : mV} {h : Nat} {x y t e : Int32} : SQ (rsAddStand v h x y t e).2 h := by
  obtain ⟨q, hq6, hq⟩ := rsDrop_c (v := v) (h := h) (t := t)
  unfold rsAddStand
  split
  · exact ⟨q, hq6, hq⟩
  · split
    · rename_i h0 h1
      rw [hq] at h1 ⊢
      have h2 := (na_lt rfl kn_6 (by omega) (by omega)).mp h1
      exact ⟨q + 1, by omega, by show u2 _ _ _ _ (h + 1) 5 = _; rw [u2_r, upd_r]; exact nI_1 q⟩
    · exact ⟨q, hq6, hq⟩
theorem hsPutStand_out {v : mV} {h q : Nat} {x y z : Int32} (hq : q < h ∨ h + 46 ≤ q) : (hsPutStand v h x y z).2 q = v q := by
  unfold hsPutStand
  repeat' split
  all_goals first | rfl | exact rsAddStand_out hq
theorem hsPutStand_SQ {v : mV} {h : Nat} {x y z : Int32} (hS : SQ v h) : SQ (hsPutStand v h x y z).2 h := by
  unfold hsPutStand
  repeat' split
  all_goals first | exact hS | exact rsAddStand_SQ
/-! commands -/
theorem scMany_of (x : Int32) : ∃ M, M ≤ 3 ∧ scMany x = nI M := by
  unfold scMany
  repeat' split
  · exact ⟨2, by omega, by decide +kernel⟩
  · exact ⟨1, by omega, by decide +kernel⟩
  · exact ⟨3, by omega, by decide +kernel⟩
  · exact ⟨1, by omega, by decide +kernel⟩
  · exact ⟨1, by omega, by decide +kernel⟩
  · exact ⟨0, by omega, by decide +kernel⟩
theorem scNum_or (v : mV) (c s : Nat) (x e : Int32) : (scNum v c s x e).1 = -1 ∨ ∃ a, (scNum v c s x e).1 = nI a ∧ a ≤ s + 4 := by
  have := scDig_le v c 3 s 0
  unfold scNum
  repeat' split
  all_goals first | exact Or.inl rfl | exact Or.inr ⟨_, rfl, by omega⟩
theorem scNum_o {v : mV} {c s q : Nat} {x e : Int32} (h : q ≠ c + 2) : (scNum v c s x e).2 q = v q := by
  unfold scNum
  repeat' split
  all_goals first | rfl | exact u2_o h
def scCmdLp (k : Nat) (w : Int32) : Nat → Nat → Int32 → mV → Int32 × mV
  | 0, _, x, v => (x, v)
  | r + 1, i, x, v => if x = -1 then (x, v) else scCmdLp k w r (i + 1) (scNum v k x.toNatClampNeg (nI i) (if nI i + 1 < w then 44 else 59)).1 (scNum v k x.toNatClampNeg (nI i) (if nI i + 1 < w then 44 else 59)).2
def scCmd (v : mV) (k s0 : Nat) : Int32 × mV :=
  if scMany (scSign v k (nI s0)) = 0 then (-1, u2 v k 3 (scSign v k (nI s0))) else scCmdLp k (scMany (scSign v k (nI s0))) (scMany (scSign v k (nI s0))).toNatClampNeg 0 (nI s0 + 1) (u2 v k 3 (scSign v k (nI s0)))
theorem scCmdLp_o {k q : Nat} {w : Int32} (h : q ≠ k + 2) : ∀ (r i : Nat) (x : Int32) (v : mV), (scCmdLp k w r i x v).2 q = v q
  | 0, i, x, v => rfl
  | r + 1, i, x, v => by
    unfold scCmdLp
    split
    · rfl
    · rw [scCmdLp_o h r, scNum_o h]
theorem scCmdLp_or {k : Nat} {w : Int32} : ∀ (r i B : Nat) (x : Int32) (v : mV), (x = -1 ∨ ∃ a, x = nI a ∧ a ≤ B) → B + 4 * r < 1000 → (scCmdLp k w r i x v).1 = -1 ∨ ∃ a, (scCmdLp k w r i x v).1 = nI a ∧ a ≤ B + 4 * r
  | 0, i, B, x, v, hx, hB => by
    rcases hx with rfl | ⟨a, rfl, ha⟩
    · exact Or.inl rfl
    · exact Or.inr ⟨a, rfl, by omega⟩
  | r + 1, i, B, x, v, hx, hB => by
    unfold scCmdLp
    split
    · rename_i h
      exact Or.inl h
    · rename_i h
      obtain ⟨a, rfl, ha⟩ := hx.resolve_left h
      rw [nI_clamp (by omega)]
      rcases scCmdLp_or (k := k) (w := w) r (i + 1) (B + 4) _ _ ((scNum_or v k a (nI i) (if nI i + 1 < w then 44 else 59)).imp id (fun ⟨a2, e1, e2⟩ => ⟨a2, e1, by omega⟩)) (by omega) with z | ⟨z, e1, e2⟩
      · exact Or.inl z
      · exact Or.inr ⟨z, e1, by omega⟩
theorem scCmd_or {v : mV} {k s0 : Nat} (hs : s0 ≤ 80) : (scCmd v k s0).1 = -1 ∨ ∃ a, (scCmd v k s0).1 = nI a ∧ a ≤ 200 := by
  unfold scCmd
  split
  · exact Or.inl rfl
  · obtain ⟨M, hM, eM⟩ := scMany_of (scSign v k (nI s0))
    rw [eM, nI_clamp (show M < 2 ^ 31 by omega)]
    rcases scCmdLp_or (k := k) (w := nI M) M 0 81 (nI s0 + 1) (u2 v k 3 (scSign v k (nI s0))) (Or.inr ⟨s0 + 1, nI_1 s0, by omega⟩) (by omega) with z | ⟨z, e1, e2⟩
    · exact Or.inl z
    · exact Or.inr ⟨z, e1, by omega⟩
theorem scCmd_o {v : mV} {k s0 q : Nat} (h : q ≠ k) (h2 : q ≠ k + 2) : (scCmd v k s0).2 q = v q := by
  unfold scCmd
  split
  · exact u2_o h
  · rw [scCmdLp_o h2, u2_o h]
theorem scCmd_2 {v : mV} {k s0 : Nat} : (scCmd v k s0).2 k 2 = v k 2 := by
  unfold scCmd
  split
  · show u2 _ _ _ _ k 2 = _
    rw [u2_r, upd_o (by omega)]
  · rw [scCmdLp_o (by omega), u2_r, upd_o (by omega)]
theorem chOK_of {v w : mV} {k : Nat} (h : w (k + 1) = v (k + 1)) (hC : chOK v k) : chOK w k := fun j hj => by rw [h]; exact hC j hj
def scObey (v : mV) (k h : Nat) : Int32 × mV :=
  if v k 3 = 97 then hsAlert v h (v (k + 2) 0) (v (k + 2) 1) else if v k 3 = 107 then hsAck v h (v (k + 2) 0) else if v k 3 = 111 then hsPutStand v h (v (k + 2) 0) (v (k + 2) 1) (v (k + 2) 2) else if v k 3 = 114 then hsClose v h (v (k + 2) 0) else if v k 3 = 116 then hsPass v h (v (k + 2) 0) else (-1, v)
theorem scObey_out {v : mV} {k h q : Nat} (hq : q < h ∨ h + 46 ≤ q) : (scObey v k h).2 q = v q := by
  unfold scObey
  repeat' split
  · exact hsAlert_out hq
  · exact hsAck_out hq
  · exact hsPutStand_out hq
  · exact hsClose_out hq
  · exact hsPass_out hq
  · rfl
theorem scObey_SQ {v : mV} {k h : Nat} (hS : SQ v h) : SQ (scObey v k h).2 h := by
  unfold scObey
  repeat' split
  · exact SQ_of hsAlert_1 hS
  · exact SQ_of hsAck_1 hS
  · exact hsPutStand_SQ hS
  · exact SQ_of hsClose_1 hS
  · exact SQ_of hsPass_1 hS
  · exact hS
def scRun1 (v : mV) (k h a : Nat) : Int32 × mV := if (scCmd v k a).1 = -1 then (1, (scCmd v k a).2) else (scReason (scObey (scCmd v k a).2 k h).1, (scObey (scCmd v k a).2 k h).2)
def scRun2 (v : mV) (k h a : Nat) : mV := u2 (scRun1 v k h a).2 k 6 (scRun1 v k h a).1
def scPerfLp (k h : Nat) : Nat → Nat → mV → mV
  | 0, _, v => v
  | r + 1, a, v => if nI a < v k 2 then (if (scRun1 v k h a).1 = -1 then scPerfLp k h r (scCmd v k a).1.toNatClampNeg (u2 (scRun2 v k h a) k 4 (scRun2 v k h a k 4 + 1)) else u2 (scRun2 v k h a) k 5 (nI a)) else v
def scPerf (v : mV) (k h : Nat) : mV := scPerfLp k h 80 0 (u2 (u2 v k 4 0) k 6 (-1))
