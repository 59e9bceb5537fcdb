/-! ===== House: alerts, minutes ===== -/
def hsNewLp (v : mV) (h : Nat) (c sv : Int32) : Nat → Nat → Int32 × mV
  | 0, _ => (-3, v)
  | r + 1, i => if v (h + (38 + i)) 0 = 0 then (nI i, hsPage (u2 (inNew v (h + (38 + i)) c sv (v h 3)) (h + 37) 0 (v (h + 37) 0 + 1)) h i (rsRegionAt (u2 (inNew v (h + (38 + i)) c sv (v h 3)) (h + 37) 0 (v (h + 37) 0 + 1)) h (v h 3))) else hsNewLp v h c sv r (i + 1)
def hsFoldLp (v : mV) (h : Nat) (c sv : Int32) : Nat → Nat → Int32 × mV
  | 0, _ => hsNewLp v h c sv 8 0
  | r + 1, i => if v (h + (38 + i)) 0 = 0 then hsFoldLp v h c sv r (i + 1) else if v (h + (38 + i)) 1 = c then
      (if v h 5 < v h 3 - v (h + (38 + i)) 10 then hsFoldLp v h c sv r (i + 1) else
        (nI i, if (hsFold v h i sv).1 = 0 then (hsFold v h i sv).2 else hsPage (hsFold v h i sv).2 h i (rsRegionAt (hsFold v h i sv).2 h (v h 3))))
    else hsFoldLp v h c sv r (i + 1)
def hsAlert (v : mV) (h : Nat) (c sv : Int32) : Int32 × mV := if c < 0 then (-1, v) else if c < 20 then (if sv < 0 then (-1, v) else if 2 < sv then (-1, v) else hsFoldLp v h c sv 8 0) else (-1, v)
def hsMinLp (h : Nat) (rg : Int32) : Nat → Nat → mV → mV
  | 0, _, v => v
  | r + 1, i, v => if v (h + (38 + i)) 0 = 0 then hsMinLp h rg r (i + 1) v else if (hsAge v h i rg).1 = 0 then hsMinLp h rg r (i + 1) (hsAge v h i rg).2 else hsMinLp h rg r (i + 1) (hsPage (hsAge v h i rg).2 h i rg)
def hsMinute (v : mV) (h : Nat) : mV := hsMinLp h (rsRegionAt (u2 v h 3 (v h 3 + 1)) h (v h 3 + 1)) 8 0 (u2 v h 3 (v h 3 + 1))
def hsMins (h : Nat) : Nat → mV → mV
  | 0, v => v
  | r + 1, v => hsMins h r (hsMinute v h)
def hsPass (v : mV) (h : Nat) (x : Int32) : Int32 × mV := if x < 1 then (-1, v) else if 600 < x then (-1, v) else if 30000 < v h 3 + x then (-3, v) else (hsMins h x.toNatClampNeg v (h + 37) 2 - v (h + 37) 2, hsMins h x.toNatClampNeg v)
def hsFol1 (v : mV) (h i : Nat) : mV := if (hsAge (u2 v h 3 (v h 3 + 1)) h i (rsRegionAt (u2 v h 3 (v h 3 + 1)) h (v h 3 + 1))).1 = 0 then (hsAge (u2 v h 3 (v h 3 + 1)) h i (rsRegionAt (u2 v h 3 (v h 3 + 1)) h (v h 3 + 1))).2 else hsPage (hsAge (u2 v h 3 (v h 3 + 1)) h i (rsRegionAt (u2 v h 3 (v h 3 + 1)) h (v h 3 + 1))).2 h i (rsRegionAt (u2 v h 3 (v h 3 + 1)) h (v h 3 + 1))
def hsFols (h i : Nat) : Nat → mV → mV
  | 0, v => v
  | r + 1, v => hsFols h i r (hsFol1 v h i)
/-- the cell of the counts stays -/
theorem hsPage_1 {v : mV} {h i : Nat} {rg : Int32} : hsPage v h i rg (h + 1) = v (h + 1) := by
  unfold hsPage hsPageP
  repeat' split
  all_goals simp (disch := omega) only [u2_o, pgA_o]
theorem hsAge_1 {v : mV} {h i : Nat} {rg : Int32} : (hsAge v h i rg).2 (h + 1) = v (h + 1) := by
  unfold hsAge
  repeat' split
  all_goals simp (disch := omega) only [u2_o]
theorem hsFold_1 {v : mV} {h i : Nat} {x : Int32} : (hsFold v h i x).2 (h + 1) = v (h + 1) := by
  unfold hsFold hsFold0
  repeat' split
  all_goals simp (disch := omega) only [u2_o]
theorem hsFold_h {v : mV} {h i : Nat} {x : Int32} : (hsFold v h i x).2 h = v h := by
  unfold hsFold hsFold0
  repeat' split
  all_goals simp (disch := omega) only [u2_o]
theorem inNew_o {v : mV} {k q : Nat} {x y z : Int32} (h : q ≠ k) : inNew v k x y z q = v q := by simp [inNew, h]
set_option maxRecDepth 100000 in
set_option maxHeartbeats 4000000 in
theorem c_X1_ownedBy {g : mG} {l : Launch} {tpl : mT} {b n : Nat} {v : mV} (h : Nat) (hh : isH g tpl b n h) (x y : Int32) : CT g l tpl b n yX1_ownedBy cX1_ownedBy 6 (some .int) rm_X1_ownedBy [.ref (b + h), .int x, .int y] v (pI (cntLp (hsOwnN v h x y) 8 0 0) v) := by
  refine CT.introI [some (.ref (b + h)), some (.int x), some (.int y), none, none, none] (own := RX1) (by decide +kernel) rfl rfl rfl rfl ?_
  intro p e s m args below meth c Q C hE
  refine r_iconst C dX1_ownedBy_0 ic_0 ?_
  refine r_istore_n C dX1_ownedBy_1 rfl rfl ?_
  refine r_iconst C dX1_ownedBy_2 ic_0 ?_
  refine r_istore C dX1_ownedBy_3 rfl rfl ?_
  have loop_5 : ∀ (r : Nat) (i : Nat) (a : Int32) (z : Option Value), (i + r = 8) → (cntLp (hsOwnN v h x y) r i a = cntLp (hsOwnN v h x y) 8 0 0) → WM g p l e rm_X1_ownedBy s m args below meth c Q tpl b n v 5 [some (.ref (b + h)), some (.int x), some (.int y), some (.int a), some (.int (nI i)), z] [] := by
    intro r
    induction r with
    | zero =>
      intro i a z hi hR
      refine r_iload C dX1_ownedBy_5 rfl ?_
      refine r_aload_n C dX1_ownedBy_7 rfl ?_
      refine gf_X1_20 C dX1_ownedBy_8 hh.1 hh.k0 ?_
      refine r_alen C dX1_ownedBy_11 hh.2.2.1 rfl (hh.k (by decide)) kn_8.symm ?_
      refine r_icmp_ge (tgt := 62) C dX1_ownedBy_12 rfl (fun c_12 => ?_) (fun c_12 => ?_)
      · skip
        refine r_iload_n C dX1_ownedBy_62 rfl ?_
        exact hE _ _ _ _ dX1_ownedBy_63 (by rw [← hR]; simp (disch := omega) [pI, pV, cntLp, c_12])
      · exact absurd c_12 (nI_nlt (a := i) (b := 8) (by omega) (by omega))
    | succ r ih_5 =>
      intro i a z hi hR
      refine r_iload C dX1_ownedBy_5 rfl ?_
      refine r_aload_n C dX1_ownedBy_7 rfl ?_
      refine gf_X1_20 C dX1_ownedBy_8 hh.1 hh.k0 ?_
      refine r_alen C dX1_ownedBy_11 hh.2.2.1 rfl (hh.k (by decide)) kn_8.symm ?_
      refine r_icmp_ge (tgt := 62) C dX1_ownedBy_12 rfl (fun c_12 => ?_) (fun c_12 => ?_)
      · exact absurd (nI_lt (a := i) (b := 8) (by omega) (by omega)) c_12
      · skip
        refine r_aload_n C dX1_ownedBy_15 rfl ?_
        refine gf_X1_20 C dX1_ownedBy_16 hh.1 hh.k0 ?_
        refine r_iload C dX1_ownedBy_19 rfl ?_
        refine r_aald (t0 := 3) C dX1_ownedBy_21 hh.2.2.1 rfl (hh.k (by decide)) (j := i) rfl (by omega) rfl rfl ?_
        refine r_astore C dX1_ownedBy_22 rfl rfl ?_
        refine r_aload C dX1_ownedBy_24 rfl ?_
        refine gf_X1_52 C dX1_ownedBy_26 (hh.2.2.2.2.1 i (by omega)) (hh.k (by omega)) ?_
        refine r_if_eq (tgt := 56) C dX1_ownedBy_29 rfl (fun c_29 => ?_) (fun c_29 => ?_)
        · skip
          refine r_iinc C dX1_ownedBy_56 rfl (nI_inc _) rfl ?_
          refine r_goto (tgt := 5) C dX1_ownedBy_59 rfl ?_
          exact ih_5 (i + 1) _ _ (by omega) (by rw [← hR]; simp [cntLp, hsOwnN, c_12, c_29])
        · skip
          refine r_aload C dX1_ownedBy_32 rfl ?_
          refine gf_X1_59 C dX1_ownedBy_34 (hh.2.2.2.2.1 i (by omega)) (hh.k (by omega)) ?_
          refine r_iload_n C dX1_ownedBy_37 rfl ?_
          refine r_icmp_ne (tgt := 56) C dX1_ownedBy_38 rfl (fun c_38 => ?_) (fun c_38 => ?_)
          · skip
            refine r_iinc C dX1_ownedBy_56 rfl (nI_inc _) rfl ?_
            refine r_goto (tgt := 5) C dX1_ownedBy_59 rfl ?_
            exact ih_5 (i + 1) _ _ (by omega) (by rw [← hR]; simp [cntLp, hsOwnN, c_12, c_29, c_38])
          · skip
            refine r_aload C dX1_ownedBy_41 rfl ?_
            refine gf_X1_56 C dX1_ownedBy_43 (hh.2.2.2.2.1 i (by omega)) (hh.k (by omega)) ?_
            refine r_if_ne (tgt := 53) C dX1_ownedBy_46 rfl (fun c_46 => ?_) (fun c_46 => ?_)
            · skip
              refine r_iinc C dX1_ownedBy_53 rfl (iinc_1 _) rfl ?_
              refine r_iinc C dX1_ownedBy_56 rfl (nI_inc _) rfl ?_
              refine r_goto (tgt := 5) C dX1_ownedBy_59 rfl ?_
              exact ih_5 (i + 1) _ _ (by omega) (by rw [← hR]; simp [cntLp, hsOwnN, c_12, c_29, c_38, c_46])
            · skip
              refine r_iload_n C dX1_ownedBy_49 rfl ?_
              refine r_if_ne (tgt := 56) C dX1_ownedBy_50 rfl (fun c_50 => ?_) (fun c_50 => ?_)
              · skip
                refine r_iinc C dX1_ownedBy_56 rfl (nI_inc _) rfl ?_
                refine r_goto (tgt := 5) C dX1_ownedBy_59 rfl ?_
                exact ih_5 (i + 1) _ _ (by omega) (by rw [← hR]; simp [cntLp, hsOwnN, c_12, c_29, c_38, c_46, c_50])
              · skip
                refine r_iinc C dX1_ownedBy_53 rfl (iinc_1 _) rfl ?_
                refine r_iinc C dX1_ownedBy_56 rfl (nI_inc _) rfl ?_
                refine r_goto (tgt := 5) C dX1_ownedBy_59 rfl ?_
                exact ih_5 (i + 1) _ _ (by omega) (by rw [← hR]; simp [cntLp, hsOwnN, c_12, c_29, c_38, c_46, c_50])
  exact loop_5 8 0 0 none rfl rfl
set_option maxRecDepth 100000 in
set_option maxHeartbeats 4000000 in
theorem c_X1_copyFrom {g : mG} {l : Launch} {tpl : mT} {b n : Nat} {v : mV} (h o : Nat) (hh : isH g tpl b n h) (ho : isH g tpl b n o) (hd : h + 46 ≤ o ∨ o + 46 ≤ h) (hB : ∀ i, i < 8 → (v (o + (38 + i)) 0 = 0 ∨ v (o + (38 + i)) 0 = 1) ∧ (v (o + (38 + i)) 7 = 0 ∨ v (o + (38 + i)) 7 = 1)) : CT g l tpl b n yX1_copyFrom cX1_copyFrom 3 none rm_X1_copyFrom [.ref (b + h), .ref (b + o)] v (pV (cpB v h o 0 46)) := by
  refine CT.introV [some (.ref (b + h)), some (.ref (b + o)), none] (own := RX1) (by decide +kernel) rfl rfl rfl rfl ?_
  intro p e s m args below meth c Q C hE
  refine r_aload_n C dX1_copyFrom_0 rfl ?_
  refine gf_X1_12 C dX1_copyFrom_1 hh.1 hh.k0 ?_
  refine r_aload_n C dX1_copyFrom_4 rfl ?_
  refine gf_X1_12 C dX1_copyFrom_5 ho.1 ho.k0 ?_
  refine cvV_X1_39 C dX1_copyFrom_8 (c_X5_copyFrom h o hh.2.1 ho.2.1 hd) hh.2.1.1 (hh.2.1.k (by decide)) ⟨rfl, rfl⟩ rfl rfl rfl ?_
  rw [show cpB v h o 1 35 = cpI v h o 0 by funext q; unfold cpI; rw [if_neg (by omega)]]
  refine r_iconst C dX1_copyFrom_11 ic_0 ?_
  refine r_istore_n C dX1_copyFrom_12 rfl rfl ?_
  have loop_13 : ∀ (r : Nat) (i : Nat), (i + r = 8) → WM g p l e rm_X1_copyFrom s m args below meth c Q tpl b n (cpI v h o i) 13 [some (.ref (b + h)), some (.ref (b + o)), some (.int (nI i))] [] := by
    intro r
    induction r with
    | zero =>
      intro i hi
      refine r_iload_n C dX1_copyFrom_13 rfl ?_
      refine r_aload_n C dX1_copyFrom_14 rfl ?_
      refine gf_X1_20 C dX1_copyFrom_15 hh.1 hh.k0 ?_
      refine r_alen C dX1_copyFrom_18 hh.2.2.1 rfl (hh.k (by decide)) kn_8.symm ?_
      refine r_icmp_ge (tgt := 52) C dX1_copyFrom_19 rfl (fun c_19 => ?_) (fun c_19 => ?_)
      · skip
        rw [show i = 8 by omega]
        refine r_aload_n C dX1_copyFrom_52 rfl ?_
        refine gf_X1_27 C dX1_copyFrom_53 hh.1 hh.k0 ?_
        refine r_aload_n C dX1_copyFrom_56 rfl ?_
        refine gf_X1_27 C dX1_copyFrom_57 ho.1 ho.k0 ?_
        refine cvV_X1_46 C dX1_copyFrom_60 (c_X9_copyFrom _ _ hh.2.2.2.1 (hh.k (by decide)) ho.2.2.2.1 (ho.k (by decide)) (by omega)) hh.2.2.2.1 (hh.k (by decide)) ⟨rfl, rfl⟩ rfl rfl rfl ?_
        refine r_aload_n C dX1_copyFrom_63 rfl ?_
        refine r_aload_n C dX1_copyFrom_64 rfl ?_
        refine gf_X1_49 C dX1_copyFrom_65 ho.1 ho.k0 ?_
        refine pf_X1_49 C dX1_copyFrom_68 hh.1 hh.k0 ?_
        refine r_aload_n C dX1_copyFrom_71 rfl ?_
        refine r_aload_n C dX1_copyFrom_72 rfl ?_
        refine gf_X1_31 C dX1_copyFrom_73 ho.1 ho.k0 ?_
        refine pf_X1_31 C dX1_copyFrom_76 hh.1 hh.k0 ?_
        refine r_aload_n C dX1_copyFrom_79 rfl ?_
        refine r_aload_n C dX1_copyFrom_80 rfl ?_
        refine gf_X1_35 C dX1_copyFrom_81 ho.1 ho.k0 ?_
        refine pf_X1_35 C dX1_copyFrom_84 hh.1 hh.k0 ?_
        refine WM_conv (v1 := cpB v h o 0 46) (cpB_conv (lo := 0) (hi := 46) (fun j h1 h2 => ?_) (fun q hq => ?_) (by omega)) ?_
        · by_cases e0 : j = 0
          · subst e0
            rw [Nat.add_zero, Nat.add_zero, hh.1]
            simp (disch := omega) only [u2_r, u2_o, cpRow_o, cpI_src, upd_r, upd_o]
            all_goals rfl
          · rw [u2_o (by omega), u2_o (by omega), u2_o (by omega)]
            by_cases e37 : j = 37
            · subst e37
              rw [cpRow_r, cpI_src hd (by omega) (by omega) (by omega)]
            · rw [cpRow_o (by omega)]
              by_cases e36 : j = 36
              · subst e36
                rw [hh.2.2.1]
              · unfold cpI
                by_cases e38 : 38 ≤ j
                · rw [if_pos (by omega), show h + j - h + o = o + j by omega]
                · rw [if_neg (by omega), cpB_in (by omega) (by omega)]
        · rw [u2_o (by omega), u2_o (by omega), u2_o (by omega), cpRow_o (by omega)]
          unfold cpI
          rw [if_neg (by omega), cpB_out (by omega)]
        exact hE _ _ _ dX1_copyFrom_87 (by first | with_reducible exact ⟨rfl, rfl⟩ | simp [pV, c_19])
      · exact absurd c_19 (nI_nlt (a := i) (b := 8) (by omega) (by omega))
    | succ r ih_13 =>
      intro i hi
      refine r_iload_n C dX1_copyFrom_13 rfl ?_
      refine r_aload_n C dX1_copyFrom_14 rfl ?_
      refine gf_X1_20 C dX1_copyFrom_15 hh.1 hh.k0 ?_
      refine r_alen C dX1_copyFrom_18 hh.2.2.1 rfl (hh.k (by decide)) kn_8.symm ?_
      refine r_icmp_ge (tgt := 52) C dX1_copyFrom_19 rfl (fun c_19 => ?_) (fun c_19 => ?_)
      · exact absurd (nI_lt (a := i) (b := 8) (by omega) (by omega)) c_19
      · skip
        refine r_iload_n C dX1_copyFrom_22 rfl ?_
        refine r_aload_n C dX1_copyFrom_23 rfl ?_
        refine gf_X1_20 C dX1_copyFrom_24 ho.1 ho.k0 ?_
        refine r_alen C dX1_copyFrom_27 ho.2.2.1 rfl (ho.k (by decide)) kn_8.symm ?_
        refine r_icmp_ge (tgt := 52) C dX1_copyFrom_28 rfl (fun c_28 => ?_) (fun c_28 => ?_)
        · exact absurd (nI_lt (a := i) (b := 8) (by omega) (by omega)) c_28
        · skip
          refine r_aload_n C dX1_copyFrom_31 rfl ?_
          refine gf_X1_20 C dX1_copyFrom_32 hh.1 hh.k0 ?_
          refine r_iload_n C dX1_copyFrom_35 rfl ?_
          refine r_aald (t0 := 3) C dX1_copyFrom_36 hh.2.2.1 rfl (hh.k (by decide)) (j := i) rfl (by omega) rfl rfl ?_
          refine r_aload_n C dX1_copyFrom_37 rfl ?_
          refine gf_X1_20 C dX1_copyFrom_38 ho.1 ho.k0 ?_
          refine r_iload_n C dX1_copyFrom_41 rfl ?_
          refine r_aald (t0 := 3) C dX1_copyFrom_42 ho.2.2.1 rfl (ho.k (by decide)) (j := i) rfl (by omega) rfl rfl ?_
          refine cvV_X1_43 C dX1_copyFrom_43 (c_X2_copyFrom _ _ (hh.2.2.2.2.1 i (by omega)) (hh.k (by omega)) (ho.2.2.2.2.1 i (by omega)) (ho.k (by omega)) (by omega) (by rw [cpI_src hd (by omega) (by omega) (by omega)]; exact (hB i (by omega)).1) (by rw [cpI_src hd (by omega) (by omega) (by omega)]; exact (hB i (by omega)).2)) (hh.2.2.2.2.1 i (by omega)) (hh.k (by omega)) ⟨rfl, rfl⟩ rfl rfl rfl ?_
          rw [cpI_row hd (by omega)]
          refine r_iinc C dX1_copyFrom_46 rfl (nI_inc _) rfl ?_
          refine r_goto (tgt := 13) C dX1_copyFrom_49 rfl ?_
          exact ih_13 (i + 1) (by omega)
  exact loop_13 8 0 rfl
