/-! ===== House: incident i stands at h + (38 + i) ===== -/
def cntLp (f : Nat → Int32 → Int32) : Nat → Nat → Int32 → Int32
  | 0, _, a => a
  | r + 1, i, a => cntLp f r (i + 1) (f i a)
def hsOpen (v : mV) (h : Nat) (x : Int32) : Int32 := if x < 0 then 0 else if x < 8 then (if v (h + (38 + x.toNatClampNeg)) 0 = 0 then 0 else 1) else 0
theorem hsOpen_01 (v : mV) (h : Nat) (x : Int32) : hsOpen v h x = 0 ∨ hsOpen v h x = 1 := by
  unfold hsOpen
  repeat' split
  all_goals simp
theorem hsOpen_of {v : mV} {h : Nat} {x : Int32} (hx : ¬ hsOpen v h x = 0) : ∃ i, i < 8 ∧ x = nI i := by
  unfold hsOpen at hx
  split at hx
  · exact absurd rfl hx
  · rename_i h0
    split at hx
    · rename_i h1
      exact na_of kn_8 (by decide) h0 h1
    · exact absurd rfl hx
def hsOpenN (v : mV) (h : Nat) (i : Nat) (a : Int32) : Int32 := if v (h + (38 + i)) 0 = 0 then a else a + 1
def hsAckN (v : mV) (h : Nat) (i : Nat) (a : Int32) : Int32 := if v (h + (38 + i)) 0 = 0 then a else if v (h + (38 + i)) 7 = 0 then a else a + 1
def hsOwnN (v : mV) (h : Nat) (x y : Int32) (i : Nat) (a : Int32) : Int32 := if v (h + (38 + i)) 0 = 0 then a else if v (h + (38 + i)) 4 = x then (if v (h + (38 + i)) 7 = 0 then (if y = 0 then a + 1 else a) else a + 1) else a
def hsPutStand (v : mV) (h : Nat) (x y z : Int32) : Int32 × mV := if rsHasR v h x = 0 then (-1, v) else if rsHasP v h y = 0 then (-1, v) else if z < 1 then (-1, v) else if 99 < z then (-1, v) else rsAddStand v h x y (v h 3) (v h 3 + z * 60)
def hsSet (v : mV) (h : Nat) (x y : Int32) : Int32 × mV := if x = 0 then (if y < 1 then (-1, v) else if 120 < y then (-1, v) else (v h 4, u2 v h 4 y)) else if x = 1 then (if y < 0 then (-1, v) else if 600 < y then (-1, v) else (v h 5, u2 v h 5 y)) else (-1, v)
def hsFold0 (v : mV) (h i : Nat) : mV := u2 (u2 (u2 (u2 v (h + (38 + i)) 8 (v (h + (38 + i)) 8 + 1)) (h + (38 + i)) 10 (v h 3)) (h + 37) 0 (v (h + 37) 0 + 1)) (h + 37) 1 (v (h + 37) 1 + 1)
def hsFold (v : mV) (h i : Nat) (x : Int32) : Int32 × mV := if v (h + (38 + i)) 2 < x then ((if v (h + (38 + i)) 4 = -1 then 1 else 0), u2 (hsFold0 v h i) (h + (38 + i)) 2 x) else (0, hsFold0 v h i)
theorem hsFold_01 (v : mV) (h i : Nat) (x : Int32) : (hsFold v h i x).1 = 0 ∨ (hsFold v h i x).1 = 1 := by
  unfold hsFold
  repeat' split
  all_goals simp
def pgA (v : mV) (k : Nat) (rg : Int32) : mV := u2 (u2 (u2 v k 7 0) k 4 (-1)) k 5 rg
theorem pgA_o {v : mV} {k q : Nat} {rg : Int32} (h : q ≠ k) : pgA v k rg q = v q := by
  unfold pgA
  rw [u2_o h, u2_o h, u2_o h]
theorem pgA_1 {v : mV} {k : Nat} {rg : Int32} : pgA v k rg k 1 = v k 1 := by simp [pgA, u2_r, upd]
theorem pgA_2 {v : mV} {k : Nat} {rg : Int32} : pgA v k rg k 2 = v k 2 := by simp [pgA, u2_r, upd]
theorem pgA_3 {v : mV} {k : Nat} {rg : Int32} : pgA v k rg k 3 = v k 3 := by simp [pgA, u2_r, upd]
/-- paging for incident i, with the person w that is looked at -/
def hsPageP (v : mV) (h i : Nat) (rg w : Int32) : mV :=
  if w < 0 then pgA v (h + (38 + i)) rg else if w < 8 then
    (if fSleeps (v (h + (5 + 2 * w.toNatClampNeg)) 1) (v (h + (5 + 2 * w.toNatClampNeg) + 1) 0) (v (h + (5 + 2 * w.toNatClampNeg) + 1) 1) (v (h + (38 + i)) 1) (v (h + (38 + i)) 2) (fHour (v h 3)) = 0 then
      u2 (u2 (u2 (u2 (pgA v (h + (38 + i)) rg) (h + (38 + i)) 4 w) (h + (38 + i)) 6 (v h 3)) (h + (5 + 2 * w.toNatClampNeg)) 2 (v (h + (5 + 2 * w.toNatClampNeg)) 2 + 1)) (h + 37) 2 (v (h + 37) 2 + 1)
    else pgA v (h + (38 + i)) rg) else pgA v (h + (38 + i)) rg
def hsPage (v : mV) (h i : Nat) (rg : Int32) : mV := hsPageP v h i rg (rsPersonAt (pgA v (h + (38 + i)) rg) h rg (v h 3) (v (h + (38 + i)) 3))
def hsAck (v : mV) (h : Nat) (x : Int32) : Int32 × mV :=
  if hsOpen v h x = 0 then (-1, v) else if v (h + (38 + x.toNatClampNeg)) 4 = -1 then (-2, v) else if v (h + (38 + x.toNatClampNeg)) 7 = 0 then
    (v h 3 - v (h + (38 + x.toNatClampNeg)) 6, u2 (u2 (u2 v (h + (38 + x.toNatClampNeg)) 7 1) (h + 37) 8 (v (h + 37) 8 + 1)) (h + 37) 9 (v (h + 37) 9 + (v h 3 - v (h + (38 + x.toNatClampNeg)) 6))) else (-2, v)
def hsClose (v : mV) (h : Nat) (x : Int32) : Int32 × mV :=
  if hsOpen v h x = 0 then (-1, v) else
    (v h 3 - v (h + (38 + x.toNatClampNeg)) 9, if rsHasP v h (v (h + (38 + x.toNatClampNeg)) 4) = 0 then u2 (u2 v (h + (38 + x.toNatClampNeg)) 0 0) (h + 37) 3 (v (h + 37) 3 + 1)
      else u2 (u2 (u2 v (h + (38 + x.toNatClampNeg)) 0 0) (h + 37) 3 (v (h + 37) 3 + 1)) (h + (5 + 2 * (v (h + (38 + x.toNatClampNeg)) 4).toNatClampNeg)) 3 (v (h + (5 + 2 * (v (h + (38 + x.toNatClampNeg)) 4).toNatClampNeg)) 3 + 1))
def hsAge (v : mV) (h i : Nat) (rg : Int32) : Int32 × mV :=
  if v (h + (38 + i)) 4 = -1 then (1, u2 (u2 (u2 v (h + 37) 7 (v (h + 37) 7 + 1)) (h + (38 + i)) 11 (v (h + (38 + i)) 11 + 1)) (h + 37) 6 (v (h + 37) 6 + 1))
  else if v (h + (38 + i)) 5 = rg then
    (if v (h + (38 + i)) 7 = 0 then (if v h 3 - v (h + (38 + i)) 6 < v h 4 then (0, u2 v (h + 37) 7 (v (h + 37) 7 + 1))
      else (1, u2 (u2 (u2 (u2 v (h + 37) 7 (v (h + 37) 7 + 1)) (h + (38 + i)) 3 (v (h + (38 + i)) 3 + 1)) (h + (38 + i)) 13 (v (h + (38 + i)) 13 + 1)) (h + 37) 5 (v (h + 37) 5 + 1)))
    else (0, u2 v (h + 37) 7 (v (h + 37) 7 + 1)))
  else (1, u2 (u2 (u2 (u2 v (h + 37) 7 (v (h + 37) 7 + 1)) (h + (38 + i)) 3 0) (h + (38 + i)) 12 (v (h + (38 + i)) 12 + 1)) (h + 37) 4 (v (h + 37) 4 + 1))
theorem hsAge_01 (v : mV) (h i : Nat) (rg : Int32) : (hsAge v h i rg).1 = 0 ∨ (hsAge v h i rg).1 = 1 := by
  unfold hsAge
  repeat' split
  all_goals simp
set_option maxRecDepth 100000 in
set_option maxHeartbeats 4000000 in
theorem c_X1_isOpen {g : mG} {l : Launch} {tpl : mT} {b n : Nat} {v : mV} (h : Nat) (hh : isH g tpl b n h) (x : Int32) : CT g l tpl b n yX1_isOpen cX1_isOpen 2 (some .boolean) rm_X1_isOpen [.ref (b + h), .int x] v (pI (hsOpen v h x) v) := by
  refine CT.introZ [some (.ref (b + h)), some (.int x)] (own := RX1) (by decide +kernel) rfl rfl rfl rfl ?_
  intro p e s m args below meth c Q C hE
  refine r_iload_n C dX1_isOpen_0 rfl ?_
  refine r_if_lt (tgt := 29) C dX1_isOpen_1 rfl (fun c_1 => ?_) (fun c_1 => ?_)
  · skip
    refine r_iconst C dX1_isOpen_29 ic_0 ?_
    exact hE _ _ _ _ (nar_b (Or.inl rfl)) dX1_isOpen_30 (by first | with_reducible exact ⟨rfl, rfl⟩ | (simp (disch := omega) [pI, pV, hsOpen, c_1, u2_o, u2_r, upd_o, upd_r]))
  · skip
    refine r_iload_n C dX1_isOpen_4 rfl ?_
    refine r_aload_n C dX1_isOpen_5 rfl ?_
    refine gf_X1_20 C dX1_isOpen_6 hh.1 hh.k0 ?_
    refine r_alen C dX1_isOpen_9 hh.2.2.1 rfl (hh.k (by decide)) kn_8.symm ?_
    refine r_icmp_ge (tgt := 29) C dX1_isOpen_10 rfl (fun c_10 => ?_) (fun c_10 => ?_)
    · skip
      refine r_iconst C dX1_isOpen_29 ic_0 ?_
      exact hE _ _ _ _ (nar_b (Or.inl rfl)) dX1_isOpen_30 (by first | with_reducible exact ⟨rfl, rfl⟩ | (simp (disch := omega) [pI, pV, hsOpen, c_1, c_10, u2_o, u2_r, upd_o, upd_r]))
    · skip
      obtain ⟨j, hj, rfl⟩ := na_of kn_8 (by decide) c_1 c_10
      have nc : (nI j).toNatClampNeg = j := nI_clamp (by omega)
      refine r_aload_n C dX1_isOpen_13 rfl ?_
      refine gf_X1_20 C dX1_isOpen_14 hh.1 hh.k0 ?_
      refine r_iload_n C dX1_isOpen_17 rfl ?_
      refine r_aald (t0 := 3) C dX1_isOpen_18 hh.2.2.1 rfl (hh.k (by decide)) (j := j) rfl hj rfl rfl ?_
      refine gf_X1_52 C dX1_isOpen_19 (hh.2.2.2.2.1 j hj) (hh.k (by omega)) ?_
      refine r_if_eq (tgt := 29) C dX1_isOpen_22 rfl (fun c_22 => ?_) (fun c_22 => ?_)
      · skip
        refine r_iconst C dX1_isOpen_29 ic_0 ?_
        exact hE _ _ _ _ (nar_b (Or.inl rfl)) dX1_isOpen_30 (by first | with_reducible exact ⟨rfl, rfl⟩ | (simp (disch := omega) [pI, pV, hsOpen, c_1, c_10, nc, c_22, u2_o, u2_r, upd_o, upd_r]))
      · skip
        refine r_iconst C dX1_isOpen_25 ic_1 ?_
        refine r_goto (tgt := 30) C dX1_isOpen_26 rfl ?_
        exact hE _ _ _ _ (nar_b (Or.inr rfl)) dX1_isOpen_30 (by first | with_reducible exact ⟨rfl, rfl⟩ | (simp (disch := omega) [pI, pV, hsOpen, c_1, c_10, nc, c_22, u2_o, u2_r, upd_o, upd_r]))
set_option maxRecDepth 100000 in
set_option maxHeartbeats 4000000 in
theorem c_X1_openIncidents {g : mG} {l : Launch} {tpl : mT} {b n : Nat} {v : mV} (h : Nat) (hh : isH g tpl b n h) : CT g l tpl b n yX1_openIncidents cX1_openIncidents 3 (some .int) rm_X1_openIncidents [.ref (b + h)] v (pI (cntLp (hsOpenN v h) 8 0 0) v) := by
  refine CT.introI [some (.ref (b + h)), none, none] (own := RX1) (by decide +kernel) rfl rfl rfl rfl ?_
  intro p e s m args below meth c Q C hE
  refine r_iconst C dX1_openIncidents_0 ic_0 ?_
  refine r_istore_n C dX1_openIncidents_1 rfl rfl ?_
  refine r_iconst C dX1_openIncidents_2 ic_0 ?_
  refine r_istore_n C dX1_openIncidents_3 rfl rfl ?_
  have loop_4 : ∀ (r : Nat) (i : Nat) (a : Int32), (i + r = 8) → (cntLp (hsOpenN v h) r i a = cntLp (hsOpenN v h) 8 0 0) → WM g p l e rm_X1_openIncidents s m args below meth c Q tpl b n v 4 [some (.ref (b + h)), some (.int a), some (.int (nI i))] [] := by
    intro r
    induction r with
    | zero =>
      intro i a hi hR
      refine r_iload_n C dX1_openIncidents_4 rfl ?_
      refine r_aload_n C dX1_openIncidents_5 rfl ?_
      refine gf_X1_20 C dX1_openIncidents_6 hh.1 hh.k0 ?_
      refine r_alen C dX1_openIncidents_9 hh.2.2.1 rfl (hh.k (by decide)) kn_8.symm ?_
      refine r_icmp_ge (tgt := 34) C dX1_openIncidents_10 rfl (fun c_10 => ?_) (fun c_10 => ?_)
      · skip
        refine r_iload_n C dX1_openIncidents_34 rfl ?_
        exact hE _ _ _ _ dX1_openIncidents_35 (by rw [← hR]; simp (disch := omega) [pI, pV, cntLp, c_10])
      · exact absurd c_10 (nI_nlt (a := i) (b := 8) (by omega) (by omega))
    | succ r ih_4 =>
      intro i a hi hR
      refine r_iload_n C dX1_openIncidents_4 rfl ?_
      refine r_aload_n C dX1_openIncidents_5 rfl ?_
      refine gf_X1_20 C dX1_openIncidents_6 hh.1 hh.k0 ?_
      refine r_alen C dX1_openIncidents_9 hh.2.2.1 rfl (hh.k (by decide)) kn_8.symm ?_
      refine r_icmp_ge (tgt := 34) C dX1_openIncidents_10 rfl (fun c_10 => ?_) (fun c_10 => ?_)
      · exact absurd (nI_lt (a := i) (b := 8) (by omega) (by omega)) c_10
      · skip
        refine r_aload_n C dX1_openIncidents_13 rfl ?_
        refine gf_X1_20 C dX1_openIncidents_14 hh.1 hh.k0 ?_
        refine r_iload_n C dX1_openIncidents_17 rfl ?_
        refine r_aald (t0 := 3) C dX1_openIncidents_18 hh.2.2.1 rfl (hh.k (by decide)) (j := i) rfl (by omega) rfl rfl ?_
        refine gf_X1_52 C dX1_openIncidents_19 (hh.2.2.2.2.1 i (by omega)) (hh.k (by omega)) ?_
        refine r_if_eq (tgt := 28) C dX1_openIncidents_22 rfl (fun c_22 => ?_) (fun c_22 => ?_)
        · skip
          refine r_iinc C dX1_openIncidents_28 rfl (nI_inc _) rfl ?_
          refine r_goto (tgt := 4) C dX1_openIncidents_31 rfl ?_
          exact ih_4 (i + 1) _ (by omega) (by rw [← hR]; simp [cntLp, hsOpenN, c_10, c_22])
        · skip
          refine r_iinc C dX1_openIncidents_25 rfl (iinc_1 _) rfl ?_
          refine r_iinc C dX1_openIncidents_28 rfl (nI_inc _) rfl ?_
          refine r_goto (tgt := 4) C dX1_openIncidents_31 rfl ?_
          exact ih_4 (i + 1) _ (by omega) (by rw [← hR]; simp [cntLp, hsOpenN, c_10, c_22])
  exact loop_4 8 0 0 rfl rfl
set_option maxRecDepth 100000 in
set_option maxHeartbeats 4000000 in
theorem c_X1_acknowledgedIncidents {g : mG} {l : Launch} {tpl : mT} {b n : Nat} {v : mV} (h : Nat) (hh : isH g tpl b n h) : CT g l tpl b n yX1_acknowledgedIncidents cX1_acknowledgedIncidents 3 (some .int) rm_X1_acknowledgedIncidents [.ref (b + h)] v (pI (cntLp (hsAckN v h) 8 0 0) v) := by
  refine CT.introI [some (.ref (b + h)), none, none] (own := RX1) (by decide +kernel) rfl rfl rfl rfl ?_
  intro p e s m args below meth c Q C hE
  refine r_iconst C dX1_acknowledgedIncidents_0 ic_0 ?_
  refine r_istore_n C dX1_acknowledgedIncidents_1 rfl rfl ?_
  refine r_iconst C dX1_acknowledgedIncidents_2 ic_0 ?_
  refine r_istore_n C dX1_acknowledgedIncidents_3 rfl rfl ?_
  have loop_4 : ∀ (r : Nat) (i : Nat) (a : Int32), (i + r = 8) → (cntLp (hsAckN v h) r i a = cntLp (hsAckN v h) 8 0 0) → WM g p l e rm_X1_acknowledgedIncidents s m args below meth c Q tpl b n v 4 [some (.ref (b + h)), some (.int a), some (.int (nI i))] [] := by
    intro r
    induction r with
    | zero =>
      intro i a hi hR
      refine r_iload_n C dX1_acknowledgedIncidents_4 rfl ?_
      refine r_aload_n C dX1_acknowledgedIncidents_5 rfl ?_
      refine gf_X1_20 C dX1_acknowledgedIncidents_6 hh.1 hh.k0 ?_
      refine r_alen C dX1_acknowledgedIncidents_9 hh.2.2.1 rfl (hh.k (by decide)) kn_8.symm ?_
      refine r_icmp_ge (tgt := 46) C dX1_acknowledgedIncidents_10 rfl (fun c_10 => ?_) (fun c_10 => ?_)
      · skip
        refine r_iload_n C dX1_acknowledgedIncidents_46 rfl ?_
        exact hE _ _ _ _ dX1_acknowledgedIncidents_47 (by rw [← hR]; simp (disch := omega) [pI, pV, cntLp, c_10])
      · exact absurd c_10 (nI_nlt (a := i) (b := 8) (by omega) (by omega))
    | succ r ih_4 =>
      intro i a hi hR
      refine r_iload_n C dX1_acknowledgedIncidents_4 rfl ?_
      refine r_aload_n C dX1_acknowledgedIncidents_5 rfl ?_
      refine gf_X1_20 C dX1_acknowledgedIncidents_6 hh.1 hh.k0 ?_
      refine r_alen C dX1_acknowledgedIncidents_9 hh.2.2.1 rfl (hh.k (by decide)) kn_8.symm ?_
      refine r_icmp_ge (tgt := 46) C dX1_acknowledgedIncidents_10 rfl (fun c_10 => ?_) (fun c_10 => ?_)
      · exact absurd (nI_lt (a := i) (b := 8) (by omega) (by omega)) c_10
      · skip
        refine r_aload_n C dX1_acknowledgedIncidents_13 rfl ?_
        refine gf_X1_20 C dX1_acknowledgedIncidents_14 hh.1 hh.k0 ?_
        refine r_iload_n C dX1_acknowledgedIncidents_17 rfl ?_
        refine r_aald (t0 := 3) C dX1_acknowledgedIncidents_18 hh.2.2.1 rfl (hh.k (by decide)) (j := i) rfl (by omega) rfl rfl ?_
        refine gf_X1_52 C dX1_acknowledgedIncidents_19 (hh.2.2.2.2.1 i (by omega)) (hh.k (by omega)) ?_
        refine r_if_eq (tgt := 40) C dX1_acknowledgedIncidents_22 rfl (fun c_22 => ?_) (fun c_22 => ?_)
        · skip
          refine r_iinc C dX1_acknowledgedIncidents_40 rfl (nI_inc _) rfl ?_
          refine r_goto (tgt := 4) C dX1_acknowledgedIncidents_43 rfl ?_
          exact ih_4 (i + 1) _ (by omega) (by rw [← hR]; simp [cntLp, hsAckN, c_10, c_22])
        · skip
          refine r_aload_n C dX1_acknowledgedIncidents_25 rfl ?_
          refine gf_X1_20 C dX1_acknowledgedIncidents_26 hh.1 hh.k0 ?_
          refine r_iload_n C dX1_acknowledgedIncidents_29 rfl ?_
          refine r_aald (t0 := 3) C dX1_acknowledgedIncidents_30 hh.2.2.1 rfl (hh.k (by decide)) (j := i) rfl (by omega) rfl rfl ?_
          refine gf_X1_56 C dX1_acknowledgedIncidents_31 (hh.2.2.2.2.1 i (by omega)) (hh.k (by omega)) ?_
          refine r_if_eq (tgt := 40) C dX1_acknowledgedIncidents_34 rfl (fun c_34 => ?_) (fun c_34 => ?_)
          · skip
            refine r_iinc C dX1_acknowledgedIncidents_40 rfl (nI_inc _) rfl ?_
            refine r_goto (tgt := 4) C dX1_acknowledgedIncidents_43 rfl ?_
            exact ih_4 (i + 1) _ (by omega) (by rw [← hR]; simp [cntLp, hsAckN, c_10, c_22, c_34])
          · skip
            refine r_iinc C dX1_acknowledgedIncidents_37 rfl (iinc_1 _) rfl ?_
            refine r_iinc C dX1_acknowledgedIncidents_40 rfl (nI_inc _) rfl ?_
            refine r_goto (tgt := 4) C dX1_acknowledgedIncidents_43 rfl ?_
            exact ih_4 (i + 1) _ (by omega) (by rw [← hR]; simp [cntLp, hsAckN, c_10, c_22, c_34])
  exact loop_4 8 0 0 rfl rfl
set_option maxRecDepth 100000 in
set_option maxHeartbeats 4000000 in
theorem c_X1_putStandIn {g : mG} {l : Launch} {tpl : mT} {b n : Nat} {v : mV} (h : Nat) (hh : isH g tpl b n h) (x y z : Int32) : CT g l tpl b n yX1_putStandIn cX1_putStandIn 4 (some .int) rm_X1_putStandIn [.ref (b + h), .int x, .int y, .int z] v (pI (hsPutStand v h x y z).1 (hsPutStand v h x y z).2) := by
  refine CT.introI [some (.ref (b + h)), some (.int x), some (.int y), some (.int z)] (own := RX1) (by decide +kernel) rfl rfl rfl rfl ?_
  intro p e s m args below meth c Q C hE
  refine r_aload_n C dX1_putStandIn_0 rfl ?_
  refine gf_X1_12 C dX1_putStandIn_1 hh.1 hh.k0 ?_
  refine r_iload_n C dX1_putStandIn_4 rfl ?_
  refine cvI_X1_62 C dX1_putStandIn_5 (c_X5_hasRegion h hh.2.1 _) hh.2.1.1 (hh.2.1.k (by decide)) ⟨rfl, rfl⟩ rfl rfl rfl ?_
  refine r_if_eq (tgt := 33) C dX1_putStandIn_8 rfl (fun c_8 => ?_) (fun c_8 => ?_)
  · skip
    refine r_iconst C dX1_putStandIn_33 ic_m1 ?_
    exact hE _ _ _ _ dX1_putStandIn_34 (by first | with_reducible exact ⟨rfl, rfl⟩ | (simp (disch := omega) [pI, pV, hsPutStand, c_8, u2_o, u2_r, upd_o, upd_r]))
  · skip
    refine r_aload_n C dX1_putStandIn_11 rfl ?_
    refine gf_X1_12 C dX1_putStandIn_12 hh.1 hh.k0 ?_
    refine r_iload_n C dX1_putStandIn_15 rfl ?_
    refine cvI_X1_66 C dX1_putStandIn_16 (c_X5_hasPerson h hh.2.1 _) hh.2.1.1 (hh.2.1.k (by decide)) ⟨rfl, rfl⟩ rfl rfl rfl ?_
    refine r_if_eq (tgt := 33) C dX1_putStandIn_19 rfl (fun c_19 => ?_) (fun c_19 => ?_)
    · skip
      refine r_iconst C dX1_putStandIn_33 ic_m1 ?_
      exact hE _ _ _ _ dX1_putStandIn_34 (by first | with_reducible exact ⟨rfl, rfl⟩ | (simp (disch := omega) [pI, pV, hsPutStand, c_8, c_19, u2_o, u2_r, upd_o, upd_r]))
    · skip
      refine r_iload_n C dX1_putStandIn_22 rfl ?_
      refine r_iconst C dX1_putStandIn_23 ic_1 ?_
      refine r_icmp_lt (tgt := 33) C dX1_putStandIn_24 rfl (fun c_24 => ?_) (fun c_24 => ?_)
      · skip
        refine r_iconst C dX1_putStandIn_33 ic_m1 ?_
        exact hE _ _ _ _ dX1_putStandIn_34 (by first | with_reducible exact ⟨rfl, rfl⟩ | (simp (disch := omega) [pI, pV, hsPutStand, c_8, c_19, c_24, u2_o, u2_r, upd_o, upd_r]))
      · skip
        refine r_iload_n C dX1_putStandIn_27 rfl ?_
        refine r_bipush C dX1_putStandIn_28 bp_99 ?_
        refine r_icmp_le (tgt := 35) C dX1_putStandIn_30 rfl (fun c_30 => ?_) (fun c_30 => ?_)
        · skip
          refine r_aload_n C dX1_putStandIn_35 rfl ?_
          refine gf_X1_12 C dX1_putStandIn_36 hh.1 hh.k0 ?_
          refine r_iload_n C dX1_putStandIn_39 rfl ?_
          refine r_iload_n C dX1_putStandIn_40 rfl ?_
          refine r_aload_n C dX1_putStandIn_41 rfl ?_
          refine gf_X1_49 C dX1_putStandIn_42 hh.1 hh.k0 ?_
          refine r_aload_n C dX1_putStandIn_45 rfl ?_
          refine gf_X1_49 C dX1_putStandIn_46 hh.1 hh.k0 ?_
          refine r_iload_n C dX1_putStandIn_49 rfl ?_
          refine r_bipush C dX1_putStandIn_50 bp_60 ?_
          refine r_imul C dX1_putStandIn_52 ?_
          refine r_iadd C dX1_putStandIn_53 ?_
          refine cvI_X1_69 C dX1_putStandIn_54 (c_X5_addStandIn h hh.2.1 _ _ _ _) hh.2.1.1 (hh.2.1.k (by decide)) ⟨rfl, rfl⟩ rfl rfl rfl ?_
          exact hE _ _ _ _ dX1_putStandIn_57 (by first | with_reducible exact ⟨rfl, rfl⟩ | (simp (disch := omega) [pI, pV, hsPutStand, c_8, c_19, c_24, c_30, u2_o, u2_r, upd_o, upd_r]))
        · skip
          refine r_iconst C dX1_putStandIn_33 ic_m1 ?_
          exact hE _ _ _ _ dX1_putStandIn_34 (by first | with_reducible exact ⟨rfl, rfl⟩ | (simp (disch := omega) [pI, pV, hsPutStand, c_8, c_19, c_24, c_30, u2_o, u2_r, upd_o, upd_r]))
set_option maxRecDepth 100000 in
set_option maxHeartbeats 4000000 in
theorem c_X1_putSetting {g : mG} {l : Launch} {tpl : mT} {b n : Nat} {v : mV} (h : Nat) (hh : isH g tpl b n h) (x y : Int32) : CT g l tpl b n yX1_putSetting cX1_putSetting 4 (some .int) rm_X1_putSetting [.ref (b + h), .int x, .int y] v (pI (hsSet v h x y).1 (hsSet v h x y).2) := by
  refine CT.introI [some (.ref (b + h)), some (.int x), some (.int y), none] (own := RX1) (by decide +kernel) rfl rfl rfl rfl ?_
  intro p e s m args below meth c Q C hE
  refine r_iload_n C dX1_putSetting_0 rfl ?_
  refine r_if_ne (tgt := 27) C dX1_putSetting_1 rfl (fun c_1 => ?_) (fun c_1 => ?_)
  · skip
    refine r_iload_n C dX1_putSetting_27 rfl ?_
    refine r_iconst C dX1_putSetting_28 ic_1 ?_
    refine r_icmp_ne (tgt := 55) C dX1_putSetting_29 rfl (fun c_29_2 => ?_) (fun c_29_2 => ?_)
    · skip
      refine r_iconst C dX1_putSetting_55 ic_m1 ?_
      exact hE _ _ _ _ dX1_putSetting_56 (by first | with_reducible exact ⟨rfl, rfl⟩ | (simp (disch := omega) [pI, pV, hsSet, c_1, c_29_2, u2_o, u2_r, upd_o, upd_r]))
    · skip
      refine r_iload_n C dX1_putSetting_32 rfl ?_
      refine r_if_lt (tgt := 55) C dX1_putSetting_33 rfl (fun c_33 => ?_) (fun c_33 => ?_)
      · skip
        refine r_iconst C dX1_putSetting_55 ic_m1 ?_
        exact hE _ _ _ _ dX1_putSetting_56 (by first | with_reducible exact ⟨rfl, rfl⟩ | (simp (disch := omega) [pI, pV, hsSet, c_1, c_29_2, c_33, u2_o, u2_r, upd_o, upd_r]))
      · skip
        refine r_iload_n C dX1_putSetting_36 rfl ?_
        refine r_sipush C dX1_putSetting_37 sp_600 ?_
        refine r_icmp_gt (tgt := 55) C dX1_putSetting_40 rfl (fun c_40 => ?_) (fun c_40 => ?_)
        · skip
          refine r_iconst C dX1_putSetting_55 ic_m1 ?_
          exact hE _ _ _ _ dX1_putSetting_56 (by first | with_reducible exact ⟨rfl, rfl⟩ | (simp (disch := omega) [pI, pV, hsSet, c_1, c_29_2, c_33, c_40, u2_o, u2_r, upd_o, upd_r]))
        · skip
          refine r_aload_n C dX1_putSetting_43 rfl ?_
          refine gf_X1_35 C dX1_putSetting_44 hh.1 hh.k0 ?_
          refine r_istore_n C dX1_putSetting_47 rfl rfl ?_
          refine r_aload_n C dX1_putSetting_48 rfl ?_
          refine r_iload_n C dX1_putSetting_49 rfl ?_
          refine pf_X1_35 C dX1_putSetting_50 hh.1 hh.k0 ?_
          refine r_iload_n C dX1_putSetting_53 rfl ?_
          exact hE _ _ _ _ dX1_putSetting_54 (by first | with_reducible exact ⟨rfl, rfl⟩ | (simp (disch := omega) [pI, pV, hsSet, c_1, c_29_2, c_33, c_40, u2_o, u2_r, upd_o, upd_r]))
  · skip
    subst c_1
    refine r_iload_n C dX1_putSetting_4 rfl ?_
    refine r_iconst C dX1_putSetting_5 ic_1 ?_
    refine r_icmp_lt (tgt := 27) C dX1_putSetting_6 rfl (fun c_6 => ?_) (fun c_6 => ?_)
    · skip
      refine r_iload_n C dX1_putSetting_27 rfl ?_
      refine r_iconst C dX1_putSetting_28 ic_1 ?_
      refine r_icmp_ne (tgt := 55) C dX1_putSetting_29 rfl (fun c_29_6 => ?_) (fun c_29_6 => ?_)
      · skip
        refine r_iconst C dX1_putSetting_55 ic_m1 ?_
        exact hE _ _ _ _ dX1_putSetting_56 (by first | with_reducible exact ⟨rfl, rfl⟩ | (simp (disch := omega) [pI, pV, hsSet, c_6, u2_o, u2_r, upd_o, upd_r]))
      · exact absurd c_29_6 (by decide)
    · skip
      refine r_iload_n C dX1_putSetting_9 rfl ?_
      refine r_bipush C dX1_putSetting_10 bp_120 ?_
      refine r_icmp_gt (tgt := 27) C dX1_putSetting_12 rfl (fun c_12 => ?_) (fun c_12 => ?_)
      · skip
        refine r_iload_n C dX1_putSetting_27 rfl ?_
        refine r_iconst C dX1_putSetting_28 ic_1 ?_
        refine r_icmp_ne (tgt := 55) C dX1_putSetting_29 rfl (fun c_29_8 => ?_) (fun c_29_8 => ?_)
        · skip
          refine r_iconst C dX1_putSetting_55 ic_m1 ?_
          exact hE _ _ _ _ dX1_putSetting_56 (by first | with_reducible exact ⟨rfl, rfl⟩ | (simp (disch := omega) [pI, pV, hsSet, c_6, c_12, u2_o, u2_r, upd_o, upd_r]))
        · exact absurd c_29_8 (by decide)
      · skip
        refine r_aload_n C dX1_putSetting_15 rfl ?_
        refine gf_X1_31 C dX1_putSetting_16 hh.1 hh.k0 ?_
        refine r_istore_n C dX1_putSetting_19 rfl rfl ?_
        refine r_aload_n C dX1_putSetting_20 rfl ?_
        refine r_iload_n C dX1_putSetting_21 rfl ?_
        refine pf_X1_31 C dX1_putSetting_22 hh.1 hh.k0 ?_
        refine r_iload_n C dX1_putSetting_25 rfl ?_
        exact hE _ _ _ _ dX1_putSetting_26 (by first | with_reducible exact ⟨rfl, rfl⟩ | (simp (disch := omega) [pI, pV, hsSet, c_6, c_12, u2_o, u2_r, upd_o, upd_r]))
set_option maxRecDepth 100000 in
set_option maxHeartbeats 4000000 in
theorem c_X1_fold {g : mG} {l : Launch} {tpl : mT} {b n : Nat} {v : mV} (h : Nat) (hh : isH g tpl b n h) (i : Nat) (hi : i < 8) (x : Int32) : CT g l tpl b n yX1_fold cX1_fold 3 (some .boolean) rm_X1_fold [.ref (b + h), .ref (b + (h + (38 + i))), .int x] v (pI (hsFold v h i x).1 (hsFold v h i x).2) := by
  refine CT.introZ [some (.ref (b + h)), some (.ref (b + (h + (38 + i)))), some (.int x)] (own := RX1) (by decide +kernel) rfl rfl rfl rfl ?_
  intro p e s m args below meth c Q C hE
  refine r_aload_n C dX1_fold_0 rfl ?_
  refine r_dup C dX1_fold_1 rfl ?_
  refine gf_X1_98 C dX1_fold_2 (hh.2.2.2.2.1 i hi) (hh.k (by omega)) ?_
  refine r_iconst C dX1_fold_5 ic_1 ?_
  refine r_iadd C dX1_fold_6 ?_
  refine pf_X1_98 C dX1_fold_7 (hh.2.2.2.2.1 i hi) (hh.k (by omega)) ?_
  refine r_aload_n C dX1_fold_10 rfl ?_
  refine r_aload_n C dX1_fold_11 rfl ?_
  refine gf_X1_49 C dX1_fold_12 hh.1 hh.k0 ?_
  refine pf_X1_76 C dX1_fold_15 (hh.2.2.2.2.1 i hi) (hh.k (by omega)) ?_
  refine r_aload_n C dX1_fold_18 rfl ?_
  refine gf_X1_27 C dX1_fold_19 hh.1 hh.k0 ?_
  refine r_dup C dX1_fold_22 rfl ?_
  refine gf_X1_95 C dX1_fold_23 hh.2.2.2.1 (hh.k (by decide)) ?_
  refine r_iconst C dX1_fold_26 ic_1 ?_
  refine r_iadd C dX1_fold_27 ?_
  refine pf_X1_95 C dX1_fold_28 hh.2.2.2.1 (hh.k (by decide)) ?_
  refine r_aload_n C dX1_fold_31 rfl ?_
  refine gf_X1_27 C dX1_fold_32 hh.1 hh.k0 ?_
  refine r_dup C dX1_fold_35 rfl ?_
  refine gf_X1_99 C dX1_fold_36 hh.2.2.2.1 (hh.k (by decide)) ?_
  refine r_iconst C dX1_fold_39 ic_1 ?_
  refine r_iadd C dX1_fold_40 ?_
  refine pf_X1_99 C dX1_fold_41 hh.2.2.2.1 (hh.k (by decide)) ?_
  refine r_iload_n C dX1_fold_44 rfl ?_
  refine r_aload_n C dX1_fold_45 rfl ?_
  refine gf_X1_102 C dX1_fold_46 (hh.2.2.2.2.1 i hi) (hh.k (by omega)) ?_
  refine r_icmp_gt (tgt := 54) C dX1_fold_49 rfl (fun c_49 => ?_) (fun c_49 => ?_)
  · skip
    try simp (disch := omega) only [u2_o, u2_r, upd_o, upd_r] at c_49
    refine r_aload_n C dX1_fold_54 rfl ?_
    refine r_iload_n C dX1_fold_55 rfl ?_
    refine pf_X1_102 C dX1_fold_56 (hh.2.2.2.2.1 i hi) (hh.k (by omega)) ?_
    refine r_aload_n C dX1_fold_59 rfl ?_
    refine gf_X1_59 C dX1_fold_60 (hh.2.2.2.2.1 i hi) (hh.k (by omega)) ?_
    refine r_iconst C dX1_fold_63 ic_m1 ?_
    refine r_icmp_ne (tgt := 71) C dX1_fold_64 rfl (fun c_64 => ?_) (fun c_64 => ?_)
    · skip
      try simp (disch := omega) only [u2_o, u2_r, upd_o, upd_r] at c_64
      refine r_iconst C dX1_fold_71 ic_0 ?_
      exact hE _ _ _ _ (nar_b (Or.inl rfl)) dX1_fold_72 (by first | with_reducible exact ⟨rfl, rfl⟩ | (simp (disch := omega) [pI, pV, hsFold, hsFold0, c_49, c_64, u2_o, u2_r, upd_o, upd_r]))
    · skip
      try simp (disch := omega) only [u2_o, u2_r, upd_o, upd_r] at c_64
      refine r_iconst C dX1_fold_67 ic_1 ?_
      refine r_goto (tgt := 72) C dX1_fold_68 rfl ?_
      exact hE _ _ _ _ (nar_b (Or.inr rfl)) dX1_fold_72 (by first | with_reducible exact ⟨rfl, rfl⟩ | (simp (disch := omega) [pI, pV, hsFold, hsFold0, c_49, c_64, u2_o, u2_r, upd_o, upd_r]))
  · skip
    try simp (disch := omega) only [u2_o, u2_r, upd_o, upd_r] at c_49
    refine r_iconst C dX1_fold_52 ic_0 ?_
    exact hE _ _ _ _ (nar_b (Or.inl rfl)) dX1_fold_53 (by first | with_reducible exact ⟨rfl, rfl⟩ | (simp (disch := omega) [pI, pV, hsFold, hsFold0, c_49, u2_o, u2_r, upd_o, upd_r]))
set_option maxRecDepth 100000 in
set_option maxHeartbeats 4000000 in
theorem c_X1_page {g : mG} {l : Launch} {tpl : mT} {b n : Nat} {v : mV} (h : Nat) (hh : isH g tpl b n h) (i : Nat) (hi : i < 8) (q : Nat) (hq : v (h + 1) 5 = nI q) (hq6 : q ≤ 6) (x : Int32) : CT g l tpl b n yX1_page cX1_page 5 none rm_X1_page [.ref (b + h), .ref (b + (h + (38 + i))), .int x] v (pV (hsPage v h i x)) := by
  refine CT.introV [some (.ref (b + h)), some (.ref (b + (h + (38 + i)))), some (.int x), none, none] (own := RX1) (by decide +kernel) rfl rfl rfl rfl ?_
  intro p e s m args below meth c Q C hE
  refine r_aload_n C dX1_page_0 rfl ?_
  refine r_iconst C dX1_page_1 ic_0 ?_
  refine pf_X1_56 C (Or.inl rfl) dX1_page_2 (hh.2.2.2.2.1 i hi) (hh.k (by omega)) ?_
  refine r_aload_n C dX1_page_5 rfl ?_
  refine r_iconst C dX1_page_6 ic_m1 ?_
  refine pf_X1_59 C dX1_page_7 (hh.2.2.2.2.1 i hi) (hh.k (by omega)) ?_
  refine r_aload_n C dX1_page_10 rfl ?_
  refine r_iload_n C dX1_page_11 rfl ?_
  refine pf_X1_105 C dX1_page_12 (hh.2.2.2.2.1 i hi) (hh.k (by omega)) ?_
  rw [show u2 (u2 (u2 v (h + (38 + i)) 7 0) (h + (38 + i)) 4 (-1)) (h + (38 + i)) 5 x = pgA v (h + (38 + i)) x from rfl]
  refine r_aload_n C dX1_page_15 rfl ?_
  refine gf_X1_12 C dX1_page_16 hh.1 hh.k0 ?_
  refine r_iload_n C dX1_page_19 rfl ?_
  refine r_aload_n C dX1_page_20 rfl ?_
  refine gf_X1_49 C dX1_page_21 hh.1 hh.k0 ?_
  refine r_aload_n C dX1_page_24 rfl ?_
  refine gf_X1_108 C dX1_page_25 (hh.2.2.2.2.1 i hi) (hh.k (by omega)) ?_
  refine cvI_X1_111 C dX1_page_28 (c_X5_personAt h hh.2.1 q (by rw [pgA_o (by omega)]; exact hq) hq6 _ _ _) hh.2.1.1 (hh.2.1.k (by decide)) ⟨rfl, rfl⟩ rfl rfl rfl ?_
  rw [pgA_3, show pgA v (h + (38 + i)) x h = v h from pgA_o (by omega)]
  generalize ew : rsPersonAt (pgA v (h + (38 + i)) x) h x (v h 3) (v (h + (38 + i)) 3) = w
  refine r_istore_n C dX1_page_31 rfl rfl ?_
  refine r_iload_n C dX1_page_32 rfl ?_
  refine r_if_lt (tgt := 48) C dX1_page_33 rfl (fun c_33 => ?_) (fun c_33 => ?_)
  · skip
    exact hE _ _ _ dX1_page_48 (And.intro rfl (by rw [hsPage, ew]; simp (disch := omega) [hsPageP, c_33, u2_o, u2_r, upd_o, upd_r, pgA_o, pgA_1, pgA_2, pgA_3]))
  · skip
    refine r_iload_n C dX1_page_36 rfl ?_
    refine r_aload_n C dX1_page_37 rfl ?_
    refine gf_X1_12 C dX1_page_38 hh.1 hh.k0 ?_
    refine gf_X1_115 C dX1_page_41 hh.2.1.1 (hh.2.1.k (by decide)) ?_
    refine r_alen C dX1_page_44 hh.2.1.2.1 rfl (hh.2.1.k (by decide)) kn_8.symm ?_
    refine r_icmp_lt (tgt := 49) C dX1_page_45 rfl (fun c_45 => ?_) (fun c_45 => ?_)
    · skip
      obtain ⟨j, hj, rfl⟩ := na_of kn_8 (by decide) c_33 c_45
      have nc : (nI j).toNatClampNeg = j := nI_clamp (by omega)
      refine r_aload_n C dX1_page_49 rfl ?_
      refine gf_X1_12 C dX1_page_50 hh.1 hh.k0 ?_
      refine gf_X1_115 C dX1_page_53 hh.2.1.1 (hh.2.1.k (by decide)) ?_
      refine r_iload_n C dX1_page_56 rfl ?_
      refine r_aald (t0 := 4) C dX1_page_57 hh.2.1.2.1 rfl (hh.2.1.k (by decide)) (j := j) rfl hj rfl rfl ?_
      refine r_astore C dX1_page_58 rfl rfl ?_
      refine r_aload C dX1_page_60 rfl ?_
      refine r_aload_n C dX1_page_62 rfl ?_
      refine gf_X1_73 C dX1_page_63 (hh.2.2.2.2.1 i hi) (hh.k (by omega)) ?_
      refine r_aload_n C dX1_page_66 rfl ?_
      refine gf_X1_102 C dX1_page_67 (hh.2.2.2.2.1 i hi) (hh.k (by omega)) ?_
      refine r_aload_n C dX1_page_70 rfl ?_
      refine gf_X1_49 C dX1_page_71 hh.1 hh.k0 ?_
      refine cvI_X1_119 C dX1_page_74 (c_X10_hourOfDay _) ⟨rfl, rfl⟩ rfl rfl rfl ?_
      refine cvI_X1_122 C dX1_page_77 (c_X3_sleepsThrough _ (hh.2.1.2.2.2.2.1 j hj) _ _ _) (hh.2.1.2.2.2.2.1 j hj).1 (hh.2.1.2.2.2.2.1 j hj).k ⟨rfl, rfl⟩ rfl rfl rfl ?_
      rw [pgA_1, pgA_2, pgA_o (by omega), pgA_o (by omega), pgA_o (by omega)]
      refine r_if_eq (tgt := 84) C dX1_page_80 rfl (fun c_80 => ?_) (fun c_80 => ?_)
      · skip
        refine r_aload_n C dX1_page_84 rfl ?_
        refine r_iload_n C dX1_page_85 rfl ?_
        refine pf_X1_59 C dX1_page_86 (hh.2.2.2.2.1 i hi) (hh.k (by omega)) ?_
        refine r_aload_n C dX1_page_89 rfl ?_
        refine r_aload_n C dX1_page_90 rfl ?_
        refine gf_X1_49 C dX1_page_91 hh.1 hh.k0 ?_
        refine pf_X1_128 C dX1_page_94 (hh.2.2.2.2.1 i hi) (hh.k (by omega)) ?_
        refine r_aload C dX1_page_97 rfl ?_
        refine r_dup C dX1_page_99 rfl ?_
        refine gf_X1_131 C dX1_page_100 (hh.2.1.2.2.2.2.1 j hj).1 (hh.2.1.2.2.2.2.1 j hj).k ?_
        refine r_iconst C dX1_page_103 ic_1 ?_
        refine r_iadd C dX1_page_104 ?_
        refine pf_X1_131 C dX1_page_105 (hh.2.1.2.2.2.2.1 j hj).1 (hh.2.1.2.2.2.2.1 j hj).k ?_
        refine r_aload_n C dX1_page_108 rfl ?_
        refine gf_X1_27 C dX1_page_109 hh.1 hh.k0 ?_
        refine r_dup C dX1_page_112 rfl ?_
        refine gf_X1_134 C dX1_page_113 hh.2.2.2.1 (hh.k (by decide)) ?_
        refine r_iconst C dX1_page_116 ic_1 ?_
        refine r_iadd C dX1_page_117 ?_
        refine pf_X1_134 C dX1_page_118 hh.2.2.2.1 (hh.k (by decide)) ?_
        exact hE _ _ _ dX1_page_121 (And.intro rfl (by rw [hsPage, ew]; simp (disch := omega) [hsPageP, c_33, c_45, nc, c_80, u2_o, u2_r, upd_o, upd_r, pgA_o, pgA_1, pgA_2, pgA_3]))
      · skip
        exact hE _ _ _ dX1_page_83 (And.intro rfl (by rw [hsPage, ew]; simp (disch := omega) [hsPageP, c_33, c_45, nc, c_80, u2_o, u2_r, upd_o, upd_r, pgA_o, pgA_1, pgA_2, pgA_3]))
    · skip
      exact hE _ _ _ dX1_page_48 (And.intro rfl (by rw [hsPage, ew]; simp (disch := omega) [hsPageP, c_33, c_45, u2_o, u2_r, upd_o, upd_r, pgA_o, pgA_1, pgA_2, pgA_3]))
set_option maxRecDepth 100000 in
set_option maxHeartbeats 4000000 in
theorem c_X1_takeAcknowledgement {g : mG} {l : Launch} {tpl : mT} {b n : Nat} {v : mV} (h : Nat) (hh : isH g tpl b n h) (x : Int32) : CT g l tpl b n yX1_takeAcknowledgement cX1_takeAcknowledgement 4 (some .int) rm_X1_takeAcknowledgement [.ref (b + h), .int x] v (pI (hsAck v h x).1 (hsAck v h x).2) := by
  refine CT.introI [some (.ref (b + h)), some (.int x), none, none] (own := RX1) (by decide +kernel) rfl rfl rfl rfl ?_
  intro p e s m args below meth c Q C hE
  refine r_aload_n C dX1_takeAcknowledgement_0 rfl ?_
  refine r_iload_n C dX1_takeAcknowledgement_1 rfl ?_
  refine cvI_X1_135 C dX1_takeAcknowledgement_2 (c_X1_isOpen h hh _) hh.1 hh.k0 ⟨rfl, rfl⟩ rfl rfl rfl ?_
  refine r_if_ne (tgt := 10) C dX1_takeAcknowledgement_5 rfl (fun c_5 => ?_) (fun c_5 => ?_)
  · skip
    obtain ⟨j, hj, rfl⟩ := hsOpen_of c_5
    have nc : (nI j).toNatClampNeg = j := nI_clamp (by omega)
    refine r_aload_n C dX1_takeAcknowledgement_10 rfl ?_
    refine gf_X1_20 C dX1_takeAcknowledgement_11 hh.1 hh.k0 ?_
    refine r_iload_n C dX1_takeAcknowledgement_14 rfl ?_
    refine r_aald (t0 := 3) C dX1_takeAcknowledgement_15 hh.2.2.1 rfl (hh.k (by decide)) (j := j) rfl hj rfl rfl ?_
    refine r_astore_n C dX1_takeAcknowledgement_16 rfl rfl ?_
    refine r_aload_n C dX1_takeAcknowledgement_17 rfl ?_
    refine gf_X1_59 C dX1_takeAcknowledgement_18 (hh.2.2.2.2.1 j hj) (hh.k (by omega)) ?_
    refine r_iconst C dX1_takeAcknowledgement_21 ic_m1 ?_
    refine r_icmp_eq (tgt := 32) C dX1_takeAcknowledgement_22 rfl (fun c_22 => ?_) (fun c_22 => ?_)
    · skip
      refine r_bipush C dX1_takeAcknowledgement_32 bp_m2 ?_
      exact hE _ _ _ _ dX1_takeAcknowledgement_34 (by first | with_reducible exact ⟨rfl, rfl⟩ | (simp (disch := omega) [pI, pV, hsAck, c_5, nc, c_22, u2_o, u2_r, upd_o, upd_r]))
    · skip
      refine r_aload_n C dX1_takeAcknowledgement_25 rfl ?_
      refine gf_X1_56 C dX1_takeAcknowledgement_26 (hh.2.2.2.2.1 j hj) (hh.k (by omega)) ?_
      refine r_if_eq (tgt := 35) C dX1_takeAcknowledgement_29 rfl (fun c_29 => ?_) (fun c_29 => ?_)
      · skip
        refine r_aload_n C dX1_takeAcknowledgement_35 rfl ?_
        refine gf_X1_49 C dX1_takeAcknowledgement_36 hh.1 hh.k0 ?_
        refine r_aload_n C dX1_takeAcknowledgement_39 rfl ?_
        refine gf_X1_128 C dX1_takeAcknowledgement_40 (hh.2.2.2.2.1 j hj) (hh.k (by omega)) ?_
        refine r_isub C dX1_takeAcknowledgement_43 ?_
        refine r_istore_n C dX1_takeAcknowledgement_44 rfl rfl ?_
        refine r_aload_n C dX1_takeAcknowledgement_45 rfl ?_
        refine r_iconst C dX1_takeAcknowledgement_46 ic_1 ?_
        refine pf_X1_56 C (Or.inr rfl) dX1_takeAcknowledgement_47 (hh.2.2.2.2.1 j hj) (hh.k (by omega)) ?_
        refine r_aload_n C dX1_takeAcknowledgement_50 rfl ?_
        refine gf_X1_27 C dX1_takeAcknowledgement_51 hh.1 hh.k0 ?_
        refine r_dup C dX1_takeAcknowledgement_54 rfl ?_
        refine gf_X1_138 C dX1_takeAcknowledgement_55 hh.2.2.2.1 (hh.k (by decide)) ?_
        refine r_iconst C dX1_takeAcknowledgement_58 ic_1 ?_
        refine r_iadd C dX1_takeAcknowledgement_59 ?_
        refine pf_X1_138 C dX1_takeAcknowledgement_60 hh.2.2.2.1 (hh.k (by decide)) ?_
        refine r_aload_n C dX1_takeAcknowledgement_63 rfl ?_
        refine gf_X1_27 C dX1_takeAcknowledgement_64 hh.1 hh.k0 ?_
        refine r_dup C dX1_takeAcknowledgement_67 rfl ?_
        refine gf_X1_141 C dX1_takeAcknowledgement_68 hh.2.2.2.1 (hh.k (by decide)) ?_
        refine r_iload_n C dX1_takeAcknowledgement_71 rfl ?_
        refine r_iadd C dX1_takeAcknowledgement_72 ?_
        refine pf_X1_141 C dX1_takeAcknowledgement_73 hh.2.2.2.1 (hh.k (by decide)) ?_
        refine r_iload_n C dX1_takeAcknowledgement_76 rfl ?_
        exact hE _ _ _ _ dX1_takeAcknowledgement_77 (by first | with_reducible exact ⟨rfl, rfl⟩ | (simp (disch := omega) [pI, pV, hsAck, c_5, nc, c_22, c_29, u2_o, u2_r, upd_o, upd_r]))
      · skip
        refine r_bipush C dX1_takeAcknowledgement_32 bp_m2 ?_
        exact hE _ _ _ _ dX1_takeAcknowledgement_34 (by first | with_reducible exact ⟨rfl, rfl⟩ | (simp (disch := omega) [pI, pV, hsAck, c_5, nc, c_22, c_29, u2_o, u2_r, upd_o, upd_r]))
  · skip
    refine r_iconst C dX1_takeAcknowledgement_8 ic_m1 ?_
    exact hE _ _ _ _ dX1_takeAcknowledgement_9 (by first | with_reducible exact ⟨rfl, rfl⟩ | (simp (disch := omega) [pI, pV, hsAck, c_5, u2_o, u2_r, upd_o, upd_r]))
set_option maxRecDepth 100000 in
set_option maxHeartbeats 4000000 in
theorem c_X1_close {g : mG} {l : Launch} {tpl : mT} {b n : Nat} {v : mV} (h : Nat) (hh : isH g tpl b n h) (x : Int32) : CT g l tpl b n yX1_close cX1_close 3 (some .int) rm_X1_close [.ref (b + h), .int x] v (pI (hsClose v h x).1 (hsClose v h x).2) := by
  refine CT.introI [some (.ref (b + h)), some (.int x), none] (own := RX1) (by decide +kernel) rfl rfl rfl rfl ?_
  intro p e s m args below meth c Q C hE
  refine r_aload_n C dX1_close_0 rfl ?_
  refine r_iload_n C dX1_close_1 rfl ?_
  refine cvI_X1_135 C dX1_close_2 (c_X1_isOpen h hh _) hh.1 hh.k0 ⟨rfl, rfl⟩ rfl rfl rfl ?_
  refine r_if_ne (tgt := 10) C dX1_close_5 rfl (fun c_5 => ?_) (fun c_5 => ?_)
  · skip
    obtain ⟨j, hj, rfl⟩ := hsOpen_of c_5
    have nc : (nI j).toNatClampNeg = j := nI_clamp (by omega)
    refine r_aload_n C dX1_close_10 rfl ?_
    refine gf_X1_20 C dX1_close_11 hh.1 hh.k0 ?_
    refine r_iload_n C dX1_close_14 rfl ?_
    refine r_aald (t0 := 3) C dX1_close_15 hh.2.2.1 rfl (hh.k (by decide)) (j := j) rfl hj rfl rfl ?_
    refine r_astore_n C dX1_close_16 rfl rfl ?_
    refine r_aload_n C dX1_close_17 rfl ?_
    refine r_iconst C dX1_close_18 ic_0 ?_
    refine pf_X1_52 C (Or.inl rfl) dX1_close_19 (hh.2.2.2.2.1 j hj) (hh.k (by omega)) ?_
    refine r_aload_n C dX1_close_22 rfl ?_
    refine gf_X1_27 C dX1_close_23 hh.1 hh.k0 ?_
    refine r_dup C dX1_close_26 rfl ?_
    refine gf_X1_144 C dX1_close_27 hh.2.2.2.1 (hh.k (by decide)) ?_
    refine r_iconst C dX1_close_30 ic_1 ?_
    refine r_iadd C dX1_close_31 ?_
    refine pf_X1_144 C dX1_close_32 hh.2.2.2.1 (hh.k (by decide)) ?_
    refine r_aload_n C dX1_close_35 rfl ?_
    refine gf_X1_12 C dX1_close_36 hh.1 hh.k0 ?_
    refine r_aload_n C dX1_close_39 rfl ?_
    refine gf_X1_59 C dX1_close_40 (hh.2.2.2.2.1 j hj) (hh.k (by omega)) ?_
    refine cvI_X1_66 C dX1_close_43 (c_X5_hasPerson h hh.2.1 _) hh.2.1.1 (hh.2.1.k (by decide)) ⟨rfl, rfl⟩ rfl rfl rfl ?_
    have ez : rsHasP (u2 (u2 v (h + (38 + j)) 0 0) (h + 37) 3 (u2 v (h + (38 + j)) 0 0 (h + 37) 3 + 1)) h (u2 (u2 v (h + (38 + j)) 0 0) (h + 37) 3 (u2 v (h + (38 + j)) 0 0 (h + 37) 3 + 1) (h + (38 + j)) 4) = rsHasP v h (v (h + (38 + j)) 4) := by simp (disch := omega) [rsHasP, u2_o, u2_r, upd_o]
    rw [ez]
    refine r_if_eq (tgt := 70) C dX1_close_46 rfl (fun c_46 => ?_) (fun c_46 => ?_)
    · skip
      refine r_aload_n C dX1_close_70 rfl ?_
      refine gf_X1_49 C dX1_close_71 hh.1 hh.k0 ?_
      refine r_aload_n C dX1_close_74 rfl ?_
      refine gf_X1_148 C dX1_close_75 (hh.2.2.2.2.1 j hj) (hh.k (by omega)) ?_
      refine r_isub C dX1_close_78 ?_
      exact hE _ _ _ _ dX1_close_79 (by first | with_reducible exact ⟨rfl, rfl⟩ | (simp (disch := omega) [pI, pV, hsClose, c_5, nc, c_46, u2_o, u2_r, upd_o, upd_r]))
    · skip
      obtain ⟨w, hw, ew⟩ := fIn_of kn_8 (by decide) c_46
      have nw : (v (h + (38 + j)) 4).toNatClampNeg = w := by rw [ew]; exact nI_clamp (by omega)
      refine r_aload_n C dX1_close_49 rfl ?_
      refine gf_X1_12 C dX1_close_50 hh.1 hh.k0 ?_
      refine gf_X1_115 C dX1_close_53 hh.2.1.1 (hh.2.1.k (by decide)) ?_
      refine r_aload_n C dX1_close_56 rfl ?_
      refine gf_X1_59 C dX1_close_57 (hh.2.2.2.2.1 j hj) (hh.k (by omega)) ?_
      refine r_aald (t0 := 4) C dX1_close_60 hh.2.1.2.1 rfl (hh.2.1.k (by decide)) (j := w) (by simp (disch := omega) only [u2_o, u2_r, upd_o]; exact ew) hw rfl rfl ?_
      refine r_dup C dX1_close_61 rfl ?_
      refine gf_X1_147 C dX1_close_62 (hh.2.1.2.2.2.2.1 w hw).1 (hh.2.1.2.2.2.2.1 w hw).k ?_
      refine r_iconst C dX1_close_65 ic_1 ?_
      refine r_iadd C dX1_close_66 ?_
      refine pf_X1_147 C dX1_close_67 (hh.2.1.2.2.2.2.1 w hw).1 (hh.2.1.2.2.2.2.1 w hw).k ?_
      refine r_aload_n C dX1_close_70 rfl ?_
      refine gf_X1_49 C dX1_close_71 hh.1 hh.k0 ?_
      refine r_aload_n C dX1_close_74 rfl ?_
      refine gf_X1_148 C dX1_close_75 (hh.2.2.2.2.1 j hj) (hh.k (by omega)) ?_
      refine r_isub C dX1_close_78 ?_
      exact hE _ _ _ _ dX1_close_79 (by first | with_reducible exact ⟨rfl, rfl⟩ | (simp (disch := omega) [pI, pV, hsClose, c_5, nc, c_46, nw, u2_o, u2_r, upd_o, upd_r]))
  · skip
    refine r_iconst C dX1_close_8 ic_m1 ?_
    exact hE _ _ _ _ dX1_close_9 (by first | with_reducible exact ⟨rfl, rfl⟩ | (simp (disch := omega) [pI, pV, hsClose, c_5, u2_o, u2_r, upd_o, upd_r]))
set_option maxRecDepth 100000 in
set_option maxHeartbeats 4000000 in
theorem c_X1_age {g : mG} {l : Launch} {tpl : mT} {b n : Nat} {v : mV} (h : Nat) (hh : isH g tpl b n h) (i : Nat) (hi : i < 8) (x : Int32) : CT g l tpl b n yX1_age cX1_age 3 (some .boolean) rm_X1_age [.ref (b + h), .ref (b + (h + (38 + i))), .int x] v (pI (hsAge v h i x).1 (hsAge v h i x).2) := by
  refine CT.introZ [some (.ref (b + h)), some (.ref (b + (h + (38 + i)))), some (.int x)] (own := RX1) (by decide +kernel) rfl rfl rfl rfl ?_
  intro p e s m args below meth c Q C hE
  refine r_aload_n C dX1_age_0 rfl ?_
  refine gf_X1_27 C dX1_age_1 hh.1 hh.k0 ?_
  refine r_dup C dX1_age_4 rfl ?_
  refine gf_X1_154 C dX1_age_5 hh.2.2.2.1 (hh.k (by decide)) ?_
  refine r_iconst C dX1_age_8 ic_1 ?_
  refine r_iadd C dX1_age_9 ?_
  refine pf_X1_154 C dX1_age_10 hh.2.2.2.1 (hh.k (by decide)) ?_
  refine r_aload_n C dX1_age_13 rfl ?_
  refine gf_X1_59 C dX1_age_14 (hh.2.2.2.2.1 i hi) (hh.k (by omega)) ?_
  refine r_iconst C dX1_age_17 ic_m1 ?_
  refine r_icmp_ne (tgt := 47) C dX1_age_18 rfl (fun c_18 => ?_) (fun c_18 => ?_)
  · skip
    try simp (disch := omega) only [u2_o, u2_r, upd_o, upd_r] at c_18
    refine r_aload_n C dX1_age_47 rfl ?_
    refine gf_X1_105 C dX1_age_48 (hh.2.2.2.2.1 i hi) (hh.k (by omega)) ?_
    refine r_iload_n C dX1_age_51 rfl ?_
    refine r_icmp_eq (tgt := 86) C dX1_age_52 rfl (fun c_52 => ?_) (fun c_52 => ?_)
    · skip
      try simp (disch := omega) only [u2_o, u2_r, upd_o, upd_r] at c_52
      refine r_aload_n C dX1_age_86 rfl ?_
      refine gf_X1_56 C dX1_age_87 (hh.2.2.2.2.1 i hi) (hh.k (by omega)) ?_
      refine r_if_ne (tgt := 145) C dX1_age_90 rfl (fun c_90 => ?_) (fun c_90 => ?_)
      · skip
        try simp (disch := omega) only [u2_o, u2_r, upd_o, upd_r] at c_90
        refine r_iconst C dX1_age_145 ic_0 ?_
        exact hE _ _ _ _ (nar_b (Or.inl rfl)) dX1_age_146 (by simp (disch := omega) [pI, hsAge, c_18, c_52, c_90, u2_o, u2_r, upd_o, upd_r])
      · skip
        try simp (disch := omega) only [u2_o, u2_r, upd_o, upd_r] at c_90
        refine r_aload_n C dX1_age_93 rfl ?_
        refine gf_X1_49 C dX1_age_94 hh.1 hh.k0 ?_
        refine r_aload_n C dX1_age_97 rfl ?_
        refine gf_X1_128 C dX1_age_98 (hh.2.2.2.2.1 i hi) (hh.k (by omega)) ?_
        refine r_isub C dX1_age_101 ?_
        refine r_aload_n C dX1_age_102 rfl ?_
        refine gf_X1_31 C dX1_age_103 hh.1 hh.k0 ?_
        refine r_icmp_lt (tgt := 145) C dX1_age_106 rfl (fun c_106 => ?_) (fun c_106 => ?_)
        · skip
          try simp (disch := omega) only [u2_o, u2_r, upd_o, upd_r] at c_106
          refine r_iconst C dX1_age_145 ic_0 ?_
          exact hE _ _ _ _ (nar_b (Or.inl rfl)) dX1_age_146 (by simp (disch := omega) [pI, hsAge, c_18, c_52, c_90, c_106, u2_o, u2_r, upd_o, upd_r])
        · skip
          try simp (disch := omega) only [u2_o, u2_r, upd_o, upd_r] at c_106
          refine r_aload_n C dX1_age_109 rfl ?_
          refine r_dup C dX1_age_110 rfl ?_
          refine gf_X1_108 C dX1_age_111 (hh.2.2.2.2.1 i hi) (hh.k (by omega)) ?_
          refine r_iconst C dX1_age_114 ic_1 ?_
          refine r_iadd C dX1_age_115 ?_
          refine pf_X1_108 C dX1_age_116 (hh.2.2.2.2.1 i hi) (hh.k (by omega)) ?_
          refine r_aload_n C dX1_age_119 rfl ?_
          refine r_dup C dX1_age_120 rfl ?_
          refine gf_X1_164 C dX1_age_121 (hh.2.2.2.2.1 i hi) (hh.k (by omega)) ?_
          refine r_iconst C dX1_age_124 ic_1 ?_
          refine r_iadd C dX1_age_125 ?_
          refine pf_X1_164 C dX1_age_126 (hh.2.2.2.2.1 i hi) (hh.k (by omega)) ?_
          refine r_aload_n C dX1_age_129 rfl ?_
          refine gf_X1_27 C dX1_age_130 hh.1 hh.k0 ?_
          refine r_dup C dX1_age_133 rfl ?_
          refine gf_X1_167 C dX1_age_134 hh.2.2.2.1 (hh.k (by decide)) ?_
          refine r_iconst C dX1_age_137 ic_1 ?_
          refine r_iadd C dX1_age_138 ?_
          refine pf_X1_167 C dX1_age_139 hh.2.2.2.1 (hh.k (by decide)) ?_
          refine r_goto (tgt := 147) C dX1_age_142 rfl ?_
          refine r_iconst C dX1_age_147 ic_1 ?_
          exact hE _ _ _ _ (nar_b (Or.inr rfl)) dX1_age_148 (by simp (disch := omega) [pI, hsAge, c_18, c_52, c_90, c_106, u2_o, u2_r, upd_o, upd_r])
    · skip
      try simp (disch := omega) only [u2_o, u2_r, upd_o, upd_r] at c_52
      refine r_aload_n C dX1_age_55 rfl ?_
      refine r_iconst C dX1_age_56 ic_0 ?_
      refine pf_X1_108 C dX1_age_57 (hh.2.2.2.2.1 i hi) (hh.k (by omega)) ?_
      refine r_aload_n C dX1_age_60 rfl ?_
      refine r_dup C dX1_age_61 rfl ?_
      refine gf_X1_160 C dX1_age_62 (hh.2.2.2.2.1 i hi) (hh.k (by omega)) ?_
      refine r_iconst C dX1_age_65 ic_1 ?_
      refine r_iadd C dX1_age_66 ?_
      refine pf_X1_160 C dX1_age_67 (hh.2.2.2.2.1 i hi) (hh.k (by omega)) ?_
      refine r_aload_n C dX1_age_70 rfl ?_
      refine gf_X1_27 C dX1_age_71 hh.1 hh.k0 ?_
      refine r_dup C dX1_age_74 rfl ?_
      refine gf_X1_163 C dX1_age_75 hh.2.2.2.1 (hh.k (by decide)) ?_
      refine r_iconst C dX1_age_78 ic_1 ?_
      refine r_iadd C dX1_age_79 ?_
      refine pf_X1_163 C dX1_age_80 hh.2.2.2.1 (hh.k (by decide)) ?_
      refine r_goto (tgt := 147) C dX1_age_83 rfl ?_
      refine r_iconst C dX1_age_147 ic_1 ?_
      exact hE _ _ _ _ (nar_b (Or.inr rfl)) dX1_age_148 (by simp (disch := omega) [pI, hsAge, c_18, c_52, u2_o, u2_r, upd_o, upd_r])
  · skip
    try simp (disch := omega) only [u2_o, u2_r, upd_o, upd_r] at c_18
    refine r_aload_n C dX1_age_21 rfl ?_
    refine r_dup C dX1_age_22 rfl ?_
    refine gf_X1_156 C dX1_age_23 (hh.2.2.2.2.1 i hi) (hh.k (by omega)) ?_
    refine r_iconst C dX1_age_26 ic_1 ?_
    refine r_iadd C dX1_age_27 ?_
    refine pf_X1_156 C dX1_age_28 (hh.2.2.2.2.1 i hi) (hh.k (by omega)) ?_
    refine r_aload_n C dX1_age_31 rfl ?_
    refine gf_X1_27 C dX1_age_32 hh.1 hh.k0 ?_
    refine r_dup C dX1_age_35 rfl ?_
    refine gf_X1_159 C dX1_age_36 hh.2.2.2.1 (hh.k (by decide)) ?_
    refine r_iconst C dX1_age_39 ic_1 ?_
    refine r_iadd C dX1_age_40 ?_
    refine pf_X1_159 C dX1_age_41 hh.2.2.2.1 (hh.k (by decide)) ?_
    refine r_goto (tgt := 147) C dX1_age_44 rfl ?_
    refine r_iconst C dX1_age_147 ic_1 ?_
    exact hE _ _ _ _ (nar_b (Or.inr rfl)) dX1_age_148 (by simp (disch := omega) [pI, hsAge, c_18, u2_o, u2_r, upd_o, upd_r])
