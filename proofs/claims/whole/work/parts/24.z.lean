/-! ===== what the changes leave: rows outside, the truth values of the incidents ===== -/
theorem rsAddPerson_out {v : mV} {h q : Nat} (hq : q < h + 1 ∨ h + 36 ≤ q) : (rsAddPerson v h).2 q = v q := by
  unfold rsAddPerson
  repeat' split
  all_goals first | rfl | simp (disch := omega) only [u2_o]
theorem rsAddRegion_out {v : mV} {h q : Nat} {x y z : Int32} (hq : q < h + 1 ∨ h + 36 ≤ q) : (rsAddRegion v h x y z).2 q = v q := by
  unfold rsAddRegion
  split
  · rfl
  · split
    · rfl
    · split
      · rfl
      · split
        · rfl
        · split
          · rfl
          · split
            · rfl
            · split
              · rename_i h0 h1
                have := clamp_lt kn_3 (by decide) h0 h1
                unfold rgPut
                simp (disch := omega) only [u2_o]
              · rfl
theorem rgAdd_out {v : mV} {k q : Nat} {x : Int32} (hq : q < k ∨ k + 3 ≤ q) : (rgAdd v k x).2 q = v q := by
  unfold rgAdd
  repeat' split
  all_goals first | rfl | simp (disch := omega) only [u2_o]
theorem rgShift_out {k q : Nat} {sz : Int32} (hq : q < k ∨ k + 3 ≤ q) : ∀ (r i : Nat) (v : mV), rgShift k sz r i v q = v q
  | 0, i, v => rfl
  | r + 1, i, v => by
    unfold rgShift
    split
    · rw [rgShift_out hq r, u2_o (by omega)]
    · rfl
theorem rgRem_out {v : mV} {k q : Nat} {x : Int32} (hq : q < k ∨ k + 3 ≤ q) : (rgRem v k x).2 q = v q := by
  unfold rgRem
  split
  · rfl
  · show u2 _ _ _ _ q = _
    rw [u2_o (by omega), rgShift_out hq]
theorem rsJoin_out {v : mV} {h q : Nat} {x y : Int32} (hq : q < h + 1 ∨ h + 36 ≤ q) : (rsJoin v h x y).2 q = v q := by
  unfold rsJoin
  split
  · rfl
  · rename_i h0
    obtain ⟨j, hj, rfl⟩ := fIn_of kn_3 (by decide) h0
    rw [nI_clamp (show j < 2 ^ 31 by omega)]
    split
    · rfl
    · exact rgAdd_out (by omega)
theorem rsLeave_out {v : mV} {h q : Nat} {x y : Int32} (hq : q < h + 1 ∨ h + 36 ≤ q) : (rsLeave v h x y).2 q = v q := by
  unfold rsLeave
  split
  · rfl
  · rename_i h0
    obtain ⟨j, hj, rfl⟩ := fIn_of kn_3 (by decide) h0
    rw [nI_clamp (show j < 2 ^ 31 by omega)]
    split
    · rfl
    · exact rgRem_out (by omega)
theorem rsQuiet_out {v : mV} {h q : Nat} {x y z : Int32} (hq : q < h + 1 ∨ h + 36 ≤ q) : (rsQuiet v h x y z).2 q = v q := by
  unfold rsQuiet
  split
  · rfl
  · rename_i h0
    obtain ⟨j, hj, rfl⟩ := fIn_of kn_8 (by decide) h0
    rw [nI_clamp (show j < 2 ^ 31 by omega)]
    repeat' split
    all_goals first | rfl | simp (disch := omega) only [u2_o]
theorem rsAddStand_hi {v : mV} {h q : Nat} {x y t e : Int32} (hq : q < h + 1 ∨ h + 36 ≤ q) : (rsAddStand v h x y t e).2 q = v q := by
  have hd : rsDrop v h t q = v q := by
    unfold rsDrop
    rw [u2_o (by omega), rsDropLp_out (by omega) 6 0 0 v (Nat.le_refl 0) rfl]
  unfold rsAddStand
  split
  · exact hd
  · split
    · rename_i h0 h1
      have hw := clamp_lt kn_6 (by decide) h0 h1
      simp (disch := omega) only [u2_o]
      exact hd
    · exact hd
theorem hsPutStand_hi {v : mV} {h q : Nat} {x y z : Int32} (hq : q < h + 1 ∨ h + 36 ≤ q) : (hsPutStand v h x y z).2 q = v q := by
  unfold hsPutStand
  repeat' split
  all_goals first | rfl | exact rsAddStand_hi hq
theorem hsSet_out {v : mV} {h q : Nat} {x y : Int32} (hq : q ≠ h) : (hsSet v h x y).2 q = v q := by
  unfold hsSet
  repeat' split
  all_goals first | rfl | exact u2_o hq
theorem hB_row {v : mV} {o k j : Nat} {x : Int32} (h : hB v o) (hk : k < o + 38 ∨ o + 46 ≤ k) : hB (u2 v k j x) o := hB_of h (fun i hi => u2_o (by omega))
theorem hB_put {v : mV} {o k j : Nat} {x : Int32} (h : hB v o) (hx : (j ≠ 0 ∧ j ≠ 7) ∨ x = 0 ∨ x = 1) : hB (u2 v k j x) o := by
  intro i hi
  by_cases hk : o + (38 + i) = k
  · subst hk
    rw [u2_r]
    constructor
    · by_cases hj : 0 = j
      · subst hj
        rw [upd_r]
        rcases hx with h1 | h1
        · exact absurd rfl h1.1
        · exact h1
      · rw [upd_o hj]
        exact (h i hi).1
    · by_cases hj : 7 = j
      · subst hj
        rw [upd_r]
        rcases hx with h1 | h1
        · exact absurd rfl h1.2
        · exact h1
      · rw [upd_o hj]
        exact (h i hi).2
  · rw [u2_o hk]
    exact h i hi
theorem pgA_B {v : mV} {o k : Nat} {rg : Int32} (h : hB v o) : hB (pgA v k rg) o := hB_put (hB_put (hB_put h (Or.inr (Or.inl rfl))) (Or.inl (by decide))) (Or.inl (by decide))
theorem hsPage_B {v : mV} {h i : Nat} {rg : Int32} (hb : hB v h) : hB (hsPage v h i rg) h := by
  unfold hsPage hsPageP
  repeat' split
  all_goals first | exact pgA_B hb | exact hB_put (hB_put (hB_put (hB_put (pgA_B hb) (Or.inl (by decide))) (Or.inl (by decide))) (Or.inl (by decide))) (Or.inl (by decide))
theorem hsAge_B {v : mV} {h i : Nat} {rg : Int32} (hb : hB v h) : hB (hsAge v h i rg).2 h := by
  have e : hB (u2 v (h + 37) 7 (v (h + 37) 7 + 1)) h := hB_row hb (by omega)
  unfold hsAge
  repeat' split
  all_goals first | exact e | exact hB_put (hB_put e (Or.inl (by decide))) (Or.inl (by decide)) | exact hB_put (hB_put (hB_put e (Or.inl (by decide))) (Or.inl (by decide))) (Or.inl (by decide))
theorem hsFold_B {v : mV} {h i : Nat} {x : Int32} (hb : hB v h) : hB (hsFold v h i x).2 h := by
  have e : hB (hsFold0 v h i) h := hB_row (hB_row (hB_put (hB_put hb (Or.inl (by decide))) (Or.inl (by decide))) (by omega)) (by omega)
  unfold hsFold
  split
  · exact hB_put e (Or.inl (by decide))
  · exact e
theorem inNew_B {v : mV} {h i : Nat} {x y z : Int32} (hb : hB v h) : hB (inNew v (h + (38 + i)) x y z) h := by
  intro j hj
  by_cases hk : h + (38 + j) = h + (38 + i)
  · rw [hk]
    exact ⟨Or.inr (by simp [inNew]), Or.inl (by simp [inNew])⟩
  · rw [inNew_o hk]
    exact hb j hj
theorem hsNewLp_B {v : mV} {h : Nat} {c sv : Int32} (hb : hB v h) : ∀ (r i : Nat), hB (hsNewLp v h c sv r i).2 h
  | 0, i => hb
  | r + 1, i => by
    unfold hsNewLp
    split
    · exact hsPage_B (hB_row (inNew_B hb) (by omega))
    · exact hsNewLp_B hb r (i + 1)
theorem hsFoldLp_B {v : mV} {h : Nat} {c sv : Int32} (hb : hB v h) : ∀ (r i : Nat), hB (hsFoldLp v h c sv r i).2 h
  | 0, i => hsNewLp_B hb 8 0
  | r + 1, i => by
    unfold hsFoldLp
    split
    · exact hsFoldLp_B hb r (i + 1)
    · split
      · split
        · exact hsFoldLp_B hb r (i + 1)
        · show hB (if _ then _ else _ : mV) h
          split
          · exact hsFold_B hb
          · exact hsPage_B (hsFold_B hb)
      · exact hsFoldLp_B hb r (i + 1)
theorem hsAlert_B {v : mV} {h : Nat} {c sv : Int32} (hb : hB v h) : hB (hsAlert v h c sv).2 h := by
  unfold hsAlert
  repeat' split
  all_goals first | exact hb | exact hsFoldLp_B hb 8 0
theorem hsAck_B {v : mV} {h : Nat} {x : Int32} (hb : hB v h) : hB (hsAck v h x).2 h := by
  unfold hsAck
  repeat' split
  all_goals first | exact hb | exact hB_row (hB_row (hB_put hb (Or.inr (Or.inr rfl))) (by omega)) (by omega)
theorem hsClose_B {v : mV} {h : Nat} {x : Int32} (hb : hB v h) : hB (hsClose v h x).2 h := by
  unfold hsClose
  split
  · exact hb
  · have e : hB (u2 (u2 v (h + (38 + x.toNatClampNeg)) 0 0) (h + 37) 3 (v (h + 37) 3 + 1)) h := hB_row (hB_put hb (Or.inr (Or.inl rfl))) (by omega)
    show hB (if _ then _ else _ : mV) h
    split
    · exact e
    · exact hB_put e (Or.inl (by decide))
theorem hsMinLp_B {h : Nat} {rg : Int32} : ∀ (r i : Nat) (v : mV), hB v h → hB (hsMinLp h rg r i v) h
  | 0, i, v, hb => hb
  | r + 1, i, v, hb => by
    unfold hsMinLp
    split
    · exact hsMinLp_B r (i + 1) v hb
    · split
      · exact hsMinLp_B r (i + 1) _ (hsAge_B hb)
      · exact hsMinLp_B r (i + 1) _ (hsPage_B (hsAge_B hb))
theorem hsMins_B {h : Nat} : ∀ (r : Nat) (v : mV), hB v h → hB (hsMins h r v) h
  | 0, v, hb => hb
  | r + 1, v, hb => hsMins_B r _ (hsMinLp_B 8 0 _ (hB_row hb (by omega)))
theorem hsPass_B {v : mV} {h : Nat} {x : Int32} (hb : hB v h) : hB (hsPass v h x).2 h := by
  unfold hsPass
  repeat' split
  all_goals first | exact hb | exact hsMins_B _ _ hb
theorem hsPutStand_B {v : mV} {h : Nat} {x y z : Int32} (hb : hB v h) : hB (hsPutStand v h x y z).2 h := hB_of hb (fun i hi => hsPutStand_hi (by omega))
theorem scObey_B {v : mV} {k h : Nat} (hb : hB v h) : hB (scObey v k h).2 h := by
  unfold scObey
  repeat' split
  · exact hsAlert_B hb
  · exact hsAck_B hb
  · exact hsPutStand_B hb
  · exact hsClose_B hb
  · exact hsPass_B hb
  · exact hb
theorem scCmd_B {v : mV} {k h a : Nat} (hd : k + 3 ≤ h ∨ h + 46 ≤ k) (hb : hB v h) : hB (scCmd v k a).2 h := hB_of hb (fun i hi => scCmd_o (by omega) (by omega))
theorem scRun1_B {v : mV} {k h a : Nat} (hd : k + 3 ≤ h ∨ h + 46 ≤ k) (hb : hB v h) : hB (scRun1 v k h a).2 h := by
  unfold scRun1
  split
  · exact scCmd_B hd hb
  · exact scObey_B (scCmd_B hd hb)
theorem scRun2_B {v : mV} {k h a : Nat} (hd : k + 3 ≤ h ∨ h + 46 ≤ k) (hb : hB v h) : hB (scRun2 v k h a) h := hB_row (scRun1_B hd hb) (by omega)
theorem scPerfLp_B {k h : Nat} (hd : k + 3 ≤ h ∨ h + 46 ≤ k) : ∀ (r a : Nat) (v : mV), hB v h → hB (scPerfLp k h r a v) h
  | 0, a, v, hb => hb
  | r + 1, a, v, hb => by
    unfold scPerfLp
    split
    · split
      · exact scPerfLp_B hd r _ _ (hB_row (scRun2_B hd hb) (by omega))
      · exact hB_row (scRun2_B hd hb) (by omega)
    · exact hb
theorem scPerf_B {v : mV} {k h : Nat} (hd : k + 3 ≤ h ∨ h + 46 ≤ k) (hb : hB v h) : hB (scPerf v k h) h := scPerfLp_B hd 80 0 _ (hB_row (hB_row hb (by omega)) (by omega))
theorem scRun1_out {v : mV} {k h a q : Nat} (hq : q < h ∨ h + 46 ≤ q) (hk : q < k ∨ k + 3 ≤ q) : (scRun1 v k h a).2 q = v q := by
  unfold scRun1
  split
  · exact scCmd_o (by omega) (by omega)
  · show (scObey _ _ _).2 q = _
    rw [scObey_out hq, scCmd_o (by omega) (by omega)]
theorem scPerfLp_out {k h q : Nat} (hq : q < h ∨ h + 46 ≤ q) (hk : q < k ∨ k + 3 ≤ q) : ∀ (r a : Nat) (v : mV), scPerfLp k h r a v q = v q
  | 0, a, v => rfl
  | r + 1, a, v => by
    unfold scPerfLp
    split
    · split
      · rw [scPerfLp_out hq hk r, u2_o (by omega), scRun2, u2_o (by omega), scRun1_out hq hk]
      · rw [u2_o (by omega), scRun2, u2_o (by omega), scRun1_out hq hk]
    · rfl
theorem scPerf_out {v : mV} {k h q : Nat} (hq : q < h ∨ h + 46 ≤ q) (hk : q < k ∨ k + 3 ≤ q) : scPerf v k h q = v q := by
  unfold scPerf
  rw [scPerfLp_out hq hk, u2_o (by omega), u2_o (by omega)]
theorem hyPrep_out {v : mV} {k h q : Nat} (hπ : hyPi v k) (hq : q < k + 2 ∨ k + 232 ≤ q) : hyPrep v k h q = v q := by
  unfold hyPrep
  split
  · rfl
  · split
    · rename_i h0 h1
      have := hπ _ (clamp_lt kn_5 (by decide) h0 h1)
      exact cpB_out (by omega)
    · rfl
theorem hyPi_of {v w : mV} {k : Nat} (h : w (k + 1) = v (k + 1)) (hπ : hyPi v k) : hyPi w k := fun j hj => by rw [h]; exact hπ j hj
/-! ===== PageRotas at cell 0: house 1, trial 47, history 93, script 325 ===== -/
abbrev tPR (b : Nat) : (Nat → Int32) → va_E := fun _ => .inr (10, [.ref (b + 1), .ref (b + 47), .ref (b + 93), .ref (b + 325)])
def isZ (g : mG) (tpl : mT) (b n : Nat) : Prop := tpl 0 = tPR b ∧ isH g tpl b n 1 ∧ isH g tpl b n 47 ∧ isY g tpl b n 93 ∧ isS g tpl b n 325 ∧ 0 < n
/-- what holds of the class's numbers between two calls -/
def CI (v : mV) : Prop := SQ v 1 ∧ hyPi v 93 ∧ hB v 1 ∧ (∀ q, q < 5 → hB v (93 + (2 + 46 * q))) ∧ chOK v 325 ∧ ∃ len, len ≤ 80 ∧ v 325 2 = nI len
def zSet (a : Int32 × mV) : Int32 × mV := if a.1 < 0 then a else (a.1, hyKeep a.2 93)
def zPrep (v : mV) : mV := hyPrep v 93 1
theorem zPrep_out {v : mV} (hc : CI v) {q : Nat} (hq : q < 95 ∨ 325 ≤ q) : zPrep v q = v q := hyPrep_out hc.2.1 (by omega)
def zRotaAt (v : mV) (x y : Int32) : Int32 := if rsHasR v 1 x = 0 then -1 else if y < 0 then -1 else if rgMember (v (1 + (21 + 3 * x.toNatClampNeg)) 3) (v (1 + (21 + 3 * x.toNatClampNeg) + 2)) y = -1 then -4 else rgMember (v (1 + (21 + 3 * x.toNatClampNeg)) 3) (v (1 + (21 + 3 * x.toNatClampNeg) + 2)) y
def zPersonOf (v : mV) (x y : Int32) : Int32 := if rsHasP v 1 x = 0 then -1 else if y = 0 then v (1 + (5 + 2 * x.toNatClampNeg)) 2 else if y = 1 then cntLp (hsOwnN v 1 x 0) 8 0 0 else if y = 2 then cntLp (hsOwnN v 1 x 1) 8 0 0 else if y = 3 then v (1 + (5 + 2 * x.toNatClampNeg)) 3 else if y = 4 then rsRegsLp v 1 x 3 0 0 else if y = 5 then (if fHas (v (1 + (5 + 2 * x.toNatClampNeg) + 1) 0) (v (1 + (5 + 2 * x.toNatClampNeg) + 1) 1) (fHour (v 1 3)) = 0 then 0 else 1) else if y = 6 then v (1 + (5 + 2 * x.toNatClampNeg)) 1 else -1
def zIncidentOf (v : mV) (x y : Int32) : Int32 := if hsOpen v 1 x = 0 then -1 else if y = 0 then v (1 + (38 + x.toNatClampNeg)) 1 else if y = 1 then v (1 + (38 + x.toNatClampNeg)) 2 else if y = 2 then v (1 + (38 + x.toNatClampNeg)) 3 else if y = 3 then (if v (1 + (38 + x.toNatClampNeg)) 4 = -1 then -4 else v (1 + (38 + x.toNatClampNeg)) 4) else if y = 4 then (if v (1 + (38 + x.toNatClampNeg)) 7 = 0 then 0 else 1) else if y = 5 then v (1 + (38 + x.toNatClampNeg)) 8 else if y = 6 then v (1 + (38 + x.toNatClampNeg)) 9 else if y = 7 then v (1 + (38 + x.toNatClampNeg)) 10 else if y = 8 then v (1 + (38 + x.toNatClampNeg)) 11 else if y = 9 then (if v (1 + (38 + x.toNatClampNeg)) 6 = -1 then -4 else v (1 + (38 + x.toNatClampNeg)) 6) else if y = 10 then v (1 + (38 + x.toNatClampNeg)) 12 else if y = 11 then v (1 + (38 + x.toNatClampNeg)) 13 else -1
def zCount (v : mV) (x : Int32) : Int32 := if x = 0 then v (1 + 1) 3 else if x = 1 then v (1 + 1) 4 else if x = 2 then v 1 3 else if x = 3 then cntLp (hsOpenN v 1) 8 0 0 else if x = 4 then cntLp (hsOwnN v 1 (-1) 0) 8 0 0 else if x = 5 then cntLp (hsAckN v 1) 8 0 0 else if x = 13 then rsForceLp v 1 (v 1 3) 6 0 0 else if x = 14 then v 93 1 else if x = 15 then v 325 2 else if x = 20 then v 1 4 else if x = 21 then v 1 5 else toNum v (1 + 37) x
def zFound (x : Int32) : Int32 := if x = -1 then -4 else x
def zOnCall (v : mV) (x y : Int32) : Int32 := if x < 0 then -1 else if 30000 < x then -1 else if y < -1 then -1 else if 9 < y then -1 else if y = -1 then zFound (rsRegionAt v 1 (v 1 3 + x)) else zFound (rsPersonAt v 1 (rsRegionAt v 1 (v 1 3 + x)) (v 1 3 + x) y)
def zUncN (v : mV) (i : Nat) (a : Int32) : Int32 := if rsRegionAt v 1 (nI i * 60) = -1 then a + 1 else a
def zLate (v : mV) (x y : Int32) : mV := hsFols 47 x.toNatClampNeg y.toNatClampNeg (cpB v 47 1 0 46)
def zLater (v : mV) (x y z : Int32) : Int32 × mV := if hsOpen v 1 x = 0 then (-1, v) else if y < 1 then (-1, v) else if 600 < y then (-1, v) else if z < 0 then (-1, v) else if 2 < z then (-1, v) else
  (if z = 1 then zLate v x y (47 + (38 + x.toNatClampNeg)) 3 else if z = 2 then zLate v x y (47 + (38 + x.toNatClampNeg)) 11 else zFound (zLate v x y (47 + (38 + x.toNatClampNeg)) 4), zLate v x y)
def zUndo (v : mV) : Int32 × mV := if 0 < v 93 1 then (hyRest v 93 1 93 1, hyRest v 93 1) else (-2, v)
def zType (v : mV) (x : Int32) : Int32 × mV := if x < 32 then (-1, v) else if 126 < x then (-1, v) else (if v 325 2 < 0 then -3 else if v 325 2 < 80 then v 325 2 + 1 else -3, if v 325 2 < 0 then v else if v 325 2 < 80 then u2 (u2 v (325 + 1) (v 325 2).toNatClampNeg x) 325 2 (v 325 2 + 1) else v)
def zDone (v : mV) : mV := scPerf (cpB v 47 1 0 46) 325 47
def zFault (v : mV) (x : Int32) : Int32 × mV := if x < 0 then (-1, v) else if 1 < x then (-1, v) else (if zDone v 325 6 = -1 then -4 else if x = 0 then zDone v 325 5 else zDone v 325 6, zDone v)
def zPlay (v : mV) : Int32 × mV := if zDone v 325 6 = -1 then zSet (cpB (zPrep (zDone v)) 1 47 0 46 325 4, cpB (zPrep (zDone v)) 1 47 0 46) else (-2, zDone v)
