/-! ===== the reference: questions ===== -/
def mRotaAt (σ : Nat → Int32) (x y : Int32) : Int32 := if mIn x 0 (σ 1 - 1) = 0 then -1 else if y < 0 then -1 else if y < σ (56 + 9 * x.toNatClampNeg + 3) then σ (56 + 9 * x.toNatClampNeg + (4 + y.toNatClampNeg)) else -4
def mOwnN (σ : Nat → Int32) (x y : Int32) (i : Nat) (a : Int32) : Int32 := a + (if mInc σ (nI i) = 0 then 0 else if σ (101 + 16 * i + 4) = x + 1 then (if y = 0 then 1 else if σ (101 + 16 * i + 5) = 1 then 1 else 0) else 0)
def mOpnN (σ : Nat → Int32) (x : Int32) (i : Nat) (a : Int32) : Int32 := a + (if mInc σ (nI i) = 0 then 0 else if x = 3 then 1 else if x = 4 then (if σ (101 + 16 * i + 4) = 0 then 1 else if x = 5 then (if σ (101 + 16 * i + 5) = 1 then 1 else 0) else 0) else if x = 5 then (if σ (101 + 16 * i + 5) = 1 then 1 else 0) else 0)
def mRtsN (σ : Nat → Int32) (x : Int32) (i : Nat) (a : Int32) : Int32 := a ||| (if mPlaceIn σ i x < 0 then (0 : Int32) else 1 <<< (nI i &&& 31))
def mUncN (σ : Nat → Int32) (i : Nat) (a : Int32) : Int32 := a + (if mRegion σ (60 * nI i) < 0 then 1 else 0)
def mOnCall (σ : Nat → Int32) (x y : Int32) : Int32 := if mIn x 0 30000 = 0 then -1 else if mIn y (-1) 9 = 0 then -1 else if y < 0 then (if mRegion σ (σ 2 + x) < 0 then -4 else mRegion σ (σ 2 + x)) else (if mPerson σ (σ 2 + x) y < 0 then -4 else mPerson σ (σ 2 + x) y)
def mPersonOf (σ : Nat → Int32) (x y : Int32) : Int32 := if mIn x 0 (σ 0 - 1) = 0 then -1 else if mIn y 0 6 = 0 then -1 else if y = 0 then σ (16 + 5 * x.toNatClampNeg + 3) else if y = 1 then cntLp (mOwnN σ x 0) 8 0 0 else if y = 2 then cntLp (mOwnN σ x 1) 8 0 0 else if y = 3 then σ (16 + 5 * x.toNatClampNeg + 4) else if y = 4 then cntLp (mRtsN σ x) (σ 1).toNatClampNeg 0 0 else if y = 5 then (if fHas (σ (16 + 5 * x.toNatClampNeg)) (σ (16 + 5 * x.toNatClampNeg + 1)) (fHour (σ 2)) = 0 then 0 else 1) else σ (16 + 5 * x.toNatClampNeg + 2)
def mIncD (σ : Nat → Int32) (x y : Int32) : Int32 := σ (101 + 16 * x.toNatClampNeg + 1 + y.toNatClampNeg)
def mIncidentOf (σ : Nat → Int32) (x y : Int32) : Int32 := if mInc σ x = 0 then -1 else if mIn y 0 11 = 0 then -1 else if y = 3 then (if σ (101 + 16 * x.toNatClampNeg + 4) = 0 then -4 else σ (101 + 16 * x.toNatClampNeg + 4) - 1) else if y = 4 then mIncD σ x y else if y = 5 then mIncD σ x y else if y = 6 then mIncD σ x y else if y = 7 then mIncD σ x y else if y = 8 then mIncD σ x y else if y = 9 then (if σ (101 + 16 * x.toNatClampNeg + 14) = 0 then -4 else σ (101 + 16 * x.toNatClampNeg + 10)) else if y = 10 then σ (101 + 16 * x.toNatClampNeg + 12) else if y = 11 then σ (101 + 16 * x.toNatClampNeg + 13) else mIncD σ x y
theorem mIn_le {x c : Int32} {n : Nat} (hc : c.toInt = n) (h : ¬ mIn x 0 c = 0) : ∃ j, j ≤ n ∧ x = nI j := by
  unfold mIn at h
  split at h
  · exact absurd rfl h
  · rename_i h0
    split at h
    · exact absurd rfl h
    · rename_i h1
      exact nI_of2 hc h0 (Int32.not_lt.mp h1)
def mCount (v : mV) (σ : Nat → Int32) (x : Int32) : Int32 := if x = 0 then σ 0 else if x = 1 then σ 1 else if x = 2 then σ 2 else if x = 3 then cntLp (mOpnN σ x) 8 0 0 else if x = 4 then cntLp (mOpnN σ x) 8 0 0 else if x = 5 then cntLp (mOpnN σ x) 8 0 0 else if x = 6 then σ 3 else if x = 7 then σ 4 else if x = 8 then σ 5 else if x = 9 then σ 6 else if x = 10 then σ 7 else if x = 11 then σ 8 else if x = 12 then σ 9 else if x = 13 then mForce σ else if x = 14 then v 0 4 else if x = 15 then v 0 6 else if x = 16 then -1 else if x = 17 then -1 else if x = 18 then -1 else if x = 19 then -1 else if x = 20 then σ 13 else if x = 21 then σ 14 else -1
theorem mIn_hi {x a c : Int32} (h : ¬ mIn x a c = 0) : x ≤ c := by
  unfold mIn at h
  split at h
  · exact absurd rfl h
  · split at h
    · exact absurd rfl h
    · rename_i h1
      exact Int32.not_lt.mp h1
set_option maxRecDepth 100000 in
set_option maxHeartbeats 4000000 in
theorem c_X11_rotaAt {g : mG} {l : Launch} {tpl : mT} {b n : Nat} {v : mV} {σ : Nat → Int32} (hm : isM g tpl b n) (hI : MI σ) (x y : Int32) : CT g l tpl b n yX11_rotaAt cX11_rotaAt 3 (some .int) rm_X11_rotaAt [.ref (b + 0), .int x, .int y] (sv v σ) (pI (mRotaAt σ x y) (sv v σ)) := by
  refine CT.introI [some (.ref (b + 0)), some (.int x), some (.int y)] (own := RX11) (by decide +kernel) rfl rfl rfl rfl ?_
  intro p e s m args below meth c Q C hE
  refine r_aload_n C dX11_rotaAt_0 rfl ?_
  refine r_iload_n C dX11_rotaAt_1 rfl ?_
  refine cvI_X11_77 C dX11_rotaAt_2 (c_X11_isRegion hm _) hm.1 (hm.k (by decide)) ⟨rfl, rfl⟩ rfl rfl rfl ?_
  refine r_if_eq (tgt := 12) C dX11_rotaAt_5 rfl (fun c_5 => ?_) (fun c_5 => ?_)
  · skip
    refine r_iconst C dX11_rotaAt_12 ic_m1 ?_
    exact hE _ _ _ _ dX11_rotaAt_13 (by simp [pI, mRotaAt, c_5])
  · skip
    obtain ⟨j, hj, rfl⟩ := mIn_R hI c_5
    have nc : (nI j).toNatClampNeg = j := nI_clamp (by omega)
    refine r_iload_n C dX11_rotaAt_8 rfl ?_
    refine r_if_ge (tgt := 14) C dX11_rotaAt_9 rfl (fun c_9 => ?_) (fun c_9 => ?_)
    · skip
      obtain ⟨m0, hm5, em⟩ := hI.2.2.2.2.1 j hj
      refine r_iload_n C dX11_rotaAt_14 rfl ?_
      refine r_aload_n C dX11_rotaAt_15 rfl ?_
      refine r_iload_n C dX11_rotaAt_16 rfl ?_
      refine r_iconst C dX11_rotaAt_17 ic_3 ?_
      refine cvI_X11_40 C dX11_rotaAt_18 (c_X11_ofWhere hm _ _ j 3 rfl kn_3 (by omega)) hm.1 (hm.k (by decide)) ⟨rfl, rfl⟩ rfl rfl rfl ?_
      refine r_icmp_ge (tgt := 35) C dX11_rotaAt_21 rfl (fun c_21 => ?_) (fun c_21 => ?_)
      · skip
        refine r_bipush C dX11_rotaAt_35 bp_m4 ?_
        exact hE _ _ _ _ dX11_rotaAt_37 (by simp [pI, mRotaAt, c_5, nc, c_9, c_21])
      · skip
        obtain ⟨k, hk, rfl⟩ := na_of em (by omega) c_9 c_21
        have nk : (nI k).toNatClampNeg = k := nI_clamp (by omega)
        refine r_aload_n C dX11_rotaAt_24 rfl ?_
        refine r_iload_n C dX11_rotaAt_25 rfl ?_
        refine r_iconst C dX11_rotaAt_26 ic_4 ?_
        refine r_iload_n C dX11_rotaAt_27 rfl ?_
        refine r_iadd C dX11_rotaAt_28 ?_
        refine cvI_X11_40 C dX11_rotaAt_29 (c_X11_ofWhere hm _ _ j (4 + k) rfl (na_add kn_4 rfl) (by omega)) hm.1 (hm.k (by decide)) ⟨rfl, rfl⟩ rfl rfl rfl ?_
        refine r_goto (tgt := 37) C dX11_rotaAt_32 rfl ?_
        exact hE _ _ _ _ dX11_rotaAt_37 (by simp [pI, mRotaAt, c_5, nc, c_9, c_21, nk])
    · skip
      refine r_iconst C dX11_rotaAt_12 ic_m1 ?_
      exact hE _ _ _ _ dX11_rotaAt_13 (by simp [pI, mRotaAt, c_5, nc, c_9])
set_option maxRecDepth 100000 in
set_option maxHeartbeats 4000000 in
theorem c_X11_ownedBy {g : mG} {l : Launch} {tpl : mT} {b n : Nat} {v : mV} {σ : Nat → Int32} (hm : isM g tpl b n) (x y : Int32) : CT g l tpl b n yX11_ownedBy cX11_ownedBy 6 (some .int) rm_X11_ownedBy [.ref (b + 0), .int x, .int y] (sv v σ) (pI (cntLp (mOwnN σ x y) 8 0 0) (sv v σ)) := by
  refine CT.introI [some (.ref (b + 0)), some (.int x), some (.int y), none, none, none] (own := RX11) (by decide +kernel) rfl rfl rfl rfl ?_
  intro p e s m args below meth c Q C hE
  refine r_iconst C dX11_ownedBy_0 ic_0 ?_
  refine r_istore_n C dX11_ownedBy_1 rfl rfl ?_
  refine r_iconst C dX11_ownedBy_2 ic_0 ?_
  refine r_istore C dX11_ownedBy_3 rfl rfl ?_
  have loop_5 : ∀ (r : Nat) (i : Nat) (a : Int32) (z : Option Value), (i + r = 8) → (cntLp (mOwnN σ x y) r i a = cntLp (mOwnN σ x y) 8 0 0) → WM g p l e rm_X11_ownedBy s m args below meth c Q tpl b n (sv v σ) 5 [some (.ref (b + 0)), some (.int x), some (.int y), some (.int a), some (.int (nI i)), z] [] := by
    intro r
    induction r with
    | zero =>
      intro i a z hi hR
      refine r_iload C dX11_ownedBy_5 rfl ?_
      refine r_bipush C dX11_ownedBy_7 bp_8 ?_
      refine r_icmp_ge (tgt := 74) C dX11_ownedBy_9 rfl (fun c_9 => ?_) (fun c_9 => ?_)
      · skip
        refine r_iload_n C dX11_ownedBy_74 rfl ?_
        exact hE _ _ _ _ dX11_ownedBy_75 (And.intro (congrArg (fun z => some (Value.int z)) (by rw [← hR]; simp only [cntLp])) rfl)
      · exact absurd c_9 (nI_nlt (a := i) (b := 8) (by omega) (by omega))
    | succ r ih_5 =>
      intro i a z hi hR
      refine r_iload C dX11_ownedBy_5 rfl ?_
      refine r_bipush C dX11_ownedBy_7 bp_8 ?_
      refine r_icmp_ge (tgt := 74) C dX11_ownedBy_9 rfl (fun c_9 => ?_) (fun c_9 => ?_)
      · exact absurd (nI_lt (a := i) (b := 8) (by omega) (by omega)) c_9
      · skip
        refine r_iload C dX11_ownedBy_12 rfl ?_
        refine cvI_X11_36 C dX11_ownedBy_14 (c_X11_incidentAt _) ⟨rfl, rfl⟩ rfl rfl rfl ?_
        refine r_istore C dX11_ownedBy_17 rfl rfl ?_
        refine r_iload_n C dX11_ownedBy_19 rfl ?_
        refine r_aload_n C dX11_ownedBy_20 rfl ?_
        refine r_iload C dX11_ownedBy_21 rfl ?_
        refine cvI_X11_70 C dX11_ownedBy_23 (c_X11_isIncident hm _) hm.1 (hm.k (by decide)) ⟨rfl, rfl⟩ rfl rfl rfl ?_
        refine r_if_eq (tgt := 65) C dX11_ownedBy_26 rfl (fun c_26 => ?_) (fun c_26 => ?_)
        · skip
          refine r_iconst C dX11_ownedBy_65 ic_0 ?_
          refine r_iadd C dX11_ownedBy_66 ?_
          refine r_istore_n C dX11_ownedBy_67 rfl rfl ?_
          refine r_iinc C dX11_ownedBy_68 rfl (nI_inc _) rfl ?_
          refine r_goto (tgt := 5) C dX11_ownedBy_71 rfl ?_
          exact ih_5 (i + 1) _ _ (by omega) (by rw [← hR]; simp [cntLp, mOwnN, c_9, c_26])
        · skip
          refine r_aload_n C dX11_ownedBy_29 rfl ?_
          refine gf_X11_7 C dX11_ownedBy_30 hm.1 (hm.k (by decide)) ?_
          refine r_iload C dX11_ownedBy_33 rfl ?_
          refine r_iconst C dX11_ownedBy_35 ic_4 ?_
          refine r_iadd C dX11_ownedBy_36 ?_
          refine r_sld C dX11_ownedBy_37 hm (j := ((101 + 16 * i) + 4)) (na_add (na_add kn_101 (na_mul kn_16 rfl)) kn_4) (by omega) ?_
          refine r_iload_n C dX11_ownedBy_38 rfl ?_
          refine r_iconst C dX11_ownedBy_39 ic_1 ?_
          refine r_iadd C dX11_ownedBy_40 ?_
          refine r_icmp_ne (tgt := 65) C dX11_ownedBy_41 rfl (fun c_41 => ?_) (fun c_41 => ?_)
          · skip
            refine r_iconst C dX11_ownedBy_65 ic_0 ?_
            refine r_iadd C dX11_ownedBy_66 ?_
            refine r_istore_n C dX11_ownedBy_67 rfl rfl ?_
            refine r_iinc C dX11_ownedBy_68 rfl (nI_inc _) rfl ?_
            refine r_goto (tgt := 5) C dX11_ownedBy_71 rfl ?_
            exact ih_5 (i + 1) _ _ (by omega) (by rw [← hR]; simp [cntLp, mOwnN, c_9, c_26, c_41])
          · skip
            refine r_iload_n C dX11_ownedBy_44 rfl ?_
            refine r_if_eq (tgt := 61) C dX11_ownedBy_45 rfl (fun c_45 => ?_) (fun c_45 => ?_)
            · skip
              refine r_iconst C dX11_ownedBy_61 ic_1 ?_
              refine r_goto (tgt := 66) C dX11_ownedBy_62 rfl ?_
              refine r_iadd C dX11_ownedBy_66 ?_
              refine r_istore_n C dX11_ownedBy_67 rfl rfl ?_
              refine r_iinc C dX11_ownedBy_68 rfl (nI_inc _) rfl ?_
              refine r_goto (tgt := 5) C dX11_ownedBy_71 rfl ?_
              exact ih_5 (i + 1) _ _ (by omega) (by rw [← hR]; simp [cntLp, mOwnN, c_9, c_26, c_41, c_45])
            · skip
              refine r_aload_n C dX11_ownedBy_48 rfl ?_
              refine gf_X11_7 C dX11_ownedBy_49 hm.1 (hm.k (by decide)) ?_
              refine r_iload C dX11_ownedBy_52 rfl ?_
              refine r_iconst C dX11_ownedBy_54 ic_5 ?_
              refine r_iadd C dX11_ownedBy_55 ?_
              refine r_sld C dX11_ownedBy_56 hm (j := ((101 + 16 * i) + 5)) (na_add (na_add kn_101 (na_mul kn_16 rfl)) kn_5) (by omega) ?_
              refine r_iconst C dX11_ownedBy_57 ic_1 ?_
              refine r_icmp_ne (tgt := 65) C dX11_ownedBy_58 rfl (fun c_58 => ?_) (fun c_58 => ?_)
              · skip
                refine r_iconst C dX11_ownedBy_65 ic_0 ?_
                refine r_iadd C dX11_ownedBy_66 ?_
                refine r_istore_n C dX11_ownedBy_67 rfl rfl ?_
                refine r_iinc C dX11_ownedBy_68 rfl (nI_inc _) rfl ?_
                refine r_goto (tgt := 5) C dX11_ownedBy_71 rfl ?_
                exact ih_5 (i + 1) _ _ (by omega) (by rw [← hR]; simp [cntLp, mOwnN, c_9, c_26, c_41, c_45, c_58])
              · skip
                refine r_iconst C dX11_ownedBy_61 ic_1 ?_
                refine r_goto (tgt := 66) C dX11_ownedBy_62 rfl ?_
                refine r_iadd C dX11_ownedBy_66 ?_
                refine r_istore_n C dX11_ownedBy_67 rfl rfl ?_
                refine r_iinc C dX11_ownedBy_68 rfl (nI_inc _) rfl ?_
                refine r_goto (tgt := 5) C dX11_ownedBy_71 rfl ?_
                exact ih_5 (i + 1) _ _ (by omega) (by rw [← hR]; simp [cntLp, mOwnN, c_9, c_26, c_41, c_45, c_58])
  exact loop_5 8 0 0 none rfl rfl
set_option maxRecDepth 100000 in
set_option maxHeartbeats 4000000 in
theorem c_X11_openOnes {g : mG} {l : Launch} {tpl : mT} {b n : Nat} {v : mV} {σ : Nat → Int32} (hm : isM g tpl b n) (x : Int32) : CT g l tpl b n yX11_openOnes cX11_openOnes 5 (some .int) rm_X11_openOnes [.ref (b + 0), .int x] (sv v σ) (pI (cntLp (mOpnN σ x) 8 0 0) (sv v σ)) := by
  refine CT.introI [some (.ref (b + 0)), some (.int x), none, none, none] (own := RX11) (by decide +kernel) rfl rfl rfl rfl ?_
  intro p e s m args below meth c Q C hE
  refine r_iconst C dX11_openOnes_0 ic_0 ?_
  refine r_istore_n C dX11_openOnes_1 rfl rfl ?_
  refine r_iconst C dX11_openOnes_2 ic_0 ?_
  refine r_istore_n C dX11_openOnes_3 rfl rfl ?_
  have loop_4 : ∀ (r : Nat) (i : Nat) (a : Int32) (z : Option Value), (i + r = 8) → (cntLp (mOpnN σ x) r i a = cntLp (mOpnN σ x) 8 0 0) → WM g p l e rm_X11_openOnes s m args below meth c Q tpl b n (sv v σ) 4 [some (.ref (b + 0)), some (.int x), some (.int a), some (.int (nI i)), z] [] := by
    intro r
    induction r with
    | zero =>
      intro i a z hi hR
      refine r_iload_n C dX11_openOnes_4 rfl ?_
      refine r_bipush C dX11_openOnes_5 bp_8 ?_
      refine r_icmp_ge (tgt := 78) C dX11_openOnes_7 rfl (fun c_7 => ?_) (fun c_7 => ?_)
      · skip
        refine r_iload_n C dX11_openOnes_78 rfl ?_
        exact hE _ _ _ _ dX11_openOnes_79 (And.intro (congrArg (fun z => some (Value.int z)) (by rw [← hR]; simp only [cntLp])) rfl)
      · exact absurd c_7 (nI_nlt (a := i) (b := 8) (by omega) (by omega))
    | succ r ih_4 =>
      intro i a z hi hR
      refine r_iload_n C dX11_openOnes_4 rfl ?_
      refine r_bipush C dX11_openOnes_5 bp_8 ?_
      refine r_icmp_ge (tgt := 78) C dX11_openOnes_7 rfl (fun c_7 => ?_) (fun c_7 => ?_)
      · exact absurd (nI_lt (a := i) (b := 8) (by omega) (by omega)) c_7
      · skip
        refine r_iload_n C dX11_openOnes_10 rfl ?_
        refine cvI_X11_36 C dX11_openOnes_11 (c_X11_incidentAt _) ⟨rfl, rfl⟩ rfl rfl rfl ?_
        refine r_istore C dX11_openOnes_14 rfl rfl ?_
        refine r_iload_n C dX11_openOnes_16 rfl ?_
        refine r_aload_n C dX11_openOnes_17 rfl ?_
        refine r_iload_n C dX11_openOnes_18 rfl ?_
        refine cvI_X11_70 C dX11_openOnes_19 (c_X11_isIncident hm _) hm.1 (hm.k (by decide)) ⟨rfl, rfl⟩ rfl rfl rfl ?_
        refine r_if_eq (tgt := 69) C dX11_openOnes_22 rfl (fun c_22 => ?_) (fun c_22 => ?_)
        · skip
          refine r_iconst C dX11_openOnes_69 ic_0 ?_
          refine r_iadd C dX11_openOnes_70 ?_
          refine r_istore_n C dX11_openOnes_71 rfl rfl ?_
          refine r_iinc C dX11_openOnes_72 rfl (nI_inc _) rfl ?_
          refine r_goto (tgt := 4) C dX11_openOnes_75 rfl ?_
          exact ih_4 (i + 1) _ _ (by omega) (by rw [← hR]; first | (simp [cntLp, mOpnN, c_7, c_22]; done) | exact absurd (c_32.symm.trans c_49) (by decide +kernel))
        · skip
          refine r_iload_n C dX11_openOnes_25 rfl ?_
          refine r_iconst C dX11_openOnes_26 ic_3 ?_
          refine r_icmp_eq (tgt := 65) C dX11_openOnes_27 rfl (fun c_27 => ?_) (fun c_27 => ?_)
          · skip
            refine r_iconst C dX11_openOnes_65 ic_1 ?_
            refine r_goto (tgt := 70) C dX11_openOnes_66 rfl ?_
            refine r_iadd C dX11_openOnes_70 ?_
            refine r_istore_n C dX11_openOnes_71 rfl rfl ?_
            refine r_iinc C dX11_openOnes_72 rfl (nI_inc _) rfl ?_
            refine r_goto (tgt := 4) C dX11_openOnes_75 rfl ?_
            exact ih_4 (i + 1) _ _ (by omega) (by rw [← hR]; first | (simp [cntLp, mOpnN, c_7, c_22, c_27]; done) | exact absurd (c_32.symm.trans c_49) (by decide +kernel))
          · skip
            refine r_iload_n C dX11_openOnes_30 rfl ?_
            refine r_iconst C dX11_openOnes_31 ic_4 ?_
            refine r_icmp_ne (tgt := 47) C dX11_openOnes_32 rfl (fun c_32 => ?_) (fun c_32 => ?_)
            · skip
              refine r_iload_n C dX11_openOnes_47 rfl ?_
              refine r_iconst C dX11_openOnes_48 ic_5 ?_
              refine r_icmp_ne (tgt := 69) C dX11_openOnes_49 rfl (fun c_49 => ?_) (fun c_49 => ?_)
              · skip
                refine r_iconst C dX11_openOnes_69 ic_0 ?_
                refine r_iadd C dX11_openOnes_70 ?_
                refine r_istore_n C dX11_openOnes_71 rfl rfl ?_
                refine r_iinc C dX11_openOnes_72 rfl (nI_inc _) rfl ?_
                refine r_goto (tgt := 4) C dX11_openOnes_75 rfl ?_
                exact ih_4 (i + 1) _ _ (by omega) (by rw [← hR]; first | (simp [cntLp, mOpnN, c_7, c_22, c_27, c_32, c_49]; done) | exact absurd (c_32.symm.trans c_49) (by decide +kernel))
              · skip
                refine r_aload_n C dX11_openOnes_52 rfl ?_
                refine gf_X11_7 C dX11_openOnes_53 hm.1 (hm.k (by decide)) ?_
                refine r_iload C dX11_openOnes_56 rfl ?_
                refine r_iconst C dX11_openOnes_58 ic_5 ?_
                refine r_iadd C dX11_openOnes_59 ?_
                refine r_sld C dX11_openOnes_60 hm (j := ((101 + 16 * i) + 5)) (na_add (na_add kn_101 (na_mul kn_16 rfl)) kn_5) (by omega) ?_
                refine r_iconst C dX11_openOnes_61 ic_1 ?_
                refine r_icmp_ne (tgt := 69) C dX11_openOnes_62 rfl (fun c_62 => ?_) (fun c_62 => ?_)
                · skip
                  refine r_iconst C dX11_openOnes_69 ic_0 ?_
                  refine r_iadd C dX11_openOnes_70 ?_
                  refine r_istore_n C dX11_openOnes_71 rfl rfl ?_
                  refine r_iinc C dX11_openOnes_72 rfl (nI_inc _) rfl ?_
                  refine r_goto (tgt := 4) C dX11_openOnes_75 rfl ?_
                  exact ih_4 (i + 1) _ _ (by omega) (by rw [← hR]; first | (simp [cntLp, mOpnN, c_7, c_22, c_27, c_32, c_49, c_62]; done) | exact absurd (c_32.symm.trans c_49) (by decide +kernel))
                · skip
                  refine r_iconst C dX11_openOnes_65 ic_1 ?_
                  refine r_goto (tgt := 70) C dX11_openOnes_66 rfl ?_
                  refine r_iadd C dX11_openOnes_70 ?_
                  refine r_istore_n C dX11_openOnes_71 rfl rfl ?_
                  refine r_iinc C dX11_openOnes_72 rfl (nI_inc _) rfl ?_
                  refine r_goto (tgt := 4) C dX11_openOnes_75 rfl ?_
                  exact ih_4 (i + 1) _ _ (by omega) (by rw [← hR]; first | (simp [cntLp, mOpnN, c_7, c_22, c_27, c_32, c_49, c_62]; done) | exact absurd (c_32.symm.trans c_49) (by decide +kernel))
            · skip
              refine r_aload_n C dX11_openOnes_35 rfl ?_
              refine gf_X11_7 C dX11_openOnes_36 hm.1 (hm.k (by decide)) ?_
              refine r_iload C dX11_openOnes_39 rfl ?_
              refine r_iconst C dX11_openOnes_41 ic_4 ?_
              refine r_iadd C dX11_openOnes_42 ?_
              refine r_sld C dX11_openOnes_43 hm (j := ((101 + 16 * i) + 4)) (na_add (na_add kn_101 (na_mul kn_16 rfl)) kn_4) (by omega) ?_
              refine r_if_eq (tgt := 65) C dX11_openOnes_44 rfl (fun c_44 => ?_) (fun c_44 => ?_)
              · skip
                refine r_iconst C dX11_openOnes_65 ic_1 ?_
                refine r_goto (tgt := 70) C dX11_openOnes_66 rfl ?_
                refine r_iadd C dX11_openOnes_70 ?_
                refine r_istore_n C dX11_openOnes_71 rfl rfl ?_
                refine r_iinc C dX11_openOnes_72 rfl (nI_inc _) rfl ?_
                refine r_goto (tgt := 4) C dX11_openOnes_75 rfl ?_
                exact ih_4 (i + 1) _ _ (by omega) (by rw [← hR]; first | (simp [cntLp, mOpnN, c_7, c_22, c_27, c_32, c_44]; done) | exact absurd (c_32.symm.trans c_49) (by decide +kernel))
              · skip
                refine r_iload_n C dX11_openOnes_47 rfl ?_
                refine r_iconst C dX11_openOnes_48 ic_5 ?_
                refine r_icmp_ne (tgt := 69) C dX11_openOnes_49 rfl (fun c_49 => ?_) (fun c_49 => ?_)
                · skip
                  refine r_iconst C dX11_openOnes_69 ic_0 ?_
                  refine r_iadd C dX11_openOnes_70 ?_
                  refine r_istore_n C dX11_openOnes_71 rfl rfl ?_
                  refine r_iinc C dX11_openOnes_72 rfl (nI_inc _) rfl ?_
                  refine r_goto (tgt := 4) C dX11_openOnes_75 rfl ?_
                  exact ih_4 (i + 1) _ _ (by omega) (by rw [← hR]; first | (simp [cntLp, mOpnN, c_7, c_22, c_27, c_32, c_44, c_49]; done) | exact absurd (c_32.symm.trans c_49) (by decide +kernel))
                · skip
                  refine r_aload_n C dX11_openOnes_52 rfl ?_
                  refine gf_X11_7 C dX11_openOnes_53 hm.1 (hm.k (by decide)) ?_
                  refine r_iload C dX11_openOnes_56 rfl ?_
                  refine r_iconst C dX11_openOnes_58 ic_5 ?_
                  refine r_iadd C dX11_openOnes_59 ?_
                  refine r_sld C dX11_openOnes_60 hm (j := ((101 + 16 * i) + 5)) (na_add (na_add kn_101 (na_mul kn_16 rfl)) kn_5) (by omega) ?_
                  refine r_iconst C dX11_openOnes_61 ic_1 ?_
                  refine r_icmp_ne (tgt := 69) C dX11_openOnes_62 rfl (fun c_62 => ?_) (fun c_62 => ?_)
                  · skip
                    refine r_iconst C dX11_openOnes_69 ic_0 ?_
                    refine r_iadd C dX11_openOnes_70 ?_
                    refine r_istore_n C dX11_openOnes_71 rfl rfl ?_
                    refine r_iinc C dX11_openOnes_72 rfl (nI_inc _) rfl ?_
                    refine r_goto (tgt := 4) C dX11_openOnes_75 rfl ?_
                    exact ih_4 (i + 1) _ _ (by omega) (by rw [← hR]; first | (simp [cntLp, mOpnN, c_7, c_22, c_27, c_32, c_44, c_49, c_62]; done) | exact absurd (c_32.symm.trans c_49) (by decide +kernel))
                  · skip
                    refine r_iconst C dX11_openOnes_65 ic_1 ?_
                    refine r_goto (tgt := 70) C dX11_openOnes_66 rfl ?_
                    refine r_iadd C dX11_openOnes_70 ?_
                    refine r_istore_n C dX11_openOnes_71 rfl rfl ?_
                    refine r_iinc C dX11_openOnes_72 rfl (nI_inc _) rfl ?_
                    refine r_goto (tgt := 4) C dX11_openOnes_75 rfl ?_
                    exact ih_4 (i + 1) _ _ (by omega) (by rw [← hR]; first | (simp [cntLp, mOpnN, c_7, c_22, c_27, c_32, c_44, c_49, c_62]; done) | exact absurd (c_32.symm.trans c_49) (by decide +kernel))
  exact loop_4 8 0 0 none rfl rfl
set_option maxRecDepth 100000 in
set_option maxHeartbeats 4000000 in
theorem c_X11_rotasOf {g : mG} {l : Launch} {tpl : mT} {b n : Nat} {v : mV} {σ : Nat → Int32} (hm : isM g tpl b n) (hI : MI σ) (x : Int32) : CT g l tpl b n yX11_rotasOf cX11_rotasOf 4 (some .int) rm_X11_rotasOf [.ref (b + 0), .int x] (sv v σ) (pI (cntLp (mRtsN σ x) (σ 1).toNatClampNeg 0 0) (sv v σ)) := by
  refine CT.introI [some (.ref (b + 0)), some (.int x), none, none] (own := RX11) (by decide +kernel) rfl rfl rfl rfl ?_
  intro p e s m args below meth c Q C hE
  obtain ⟨R0, r1, r2⟩ := MI_R hI
  have nR : (σ 1).toNatClampNeg = R0 := by rw [r2]; exact nI_clamp (by omega)
  refine r_iconst C dX11_rotasOf_0 ic_0 ?_
  refine r_istore_n C dX11_rotasOf_1 rfl rfl ?_
  refine r_iconst C dX11_rotasOf_2 ic_0 ?_
  refine r_istore_n C dX11_rotasOf_3 rfl rfl ?_
  have loop_4 : ∀ (r : Nat) (i : Nat) (a : Int32), (i + r = R0) → (cntLp (mRtsN σ x) r i a = cntLp (mRtsN σ x) R0 0 0) → WM g p l e rm_X11_rotasOf s m args below meth c Q tpl b n (sv v σ) 4 [some (.ref (b + 0)), some (.int x), some (.int a), some (.int (nI i))] [] := by
    intro r
    induction r with
    | zero =>
      intro i a hi hR
      refine r_iload_n C dX11_rotasOf_4 rfl ?_
      refine r_aload_n C dX11_rotasOf_5 rfl ?_
      refine gf_X11_7 C dX11_rotasOf_6 hm.1 (hm.k (by decide)) ?_
      refine r_iconst C dX11_rotasOf_9 ic_1 ?_
      refine r_sld C dX11_rotasOf_10 hm (j := 1) kn_1 (by omega) ?_
      refine r_icmp_ge (tgt := 39) C dX11_rotasOf_11 rfl (fun c_11 => ?_) (fun c_11 => ?_)
      · skip
        refine r_iload_n C dX11_rotasOf_39 rfl ?_
        exact hE _ _ _ _ dX11_rotasOf_40 (And.intro (congrArg (fun z => some (Value.int z)) (by rw [nR, ← hR]; simp only [cntLp])) rfl)
      · exact absurd c_11 (by rw [r2]; exact nI_nlt (by omega) (by omega))
    | succ r ih_4 =>
      intro i a hi hR
      refine r_iload_n C dX11_rotasOf_4 rfl ?_
      refine r_aload_n C dX11_rotasOf_5 rfl ?_
      refine gf_X11_7 C dX11_rotasOf_6 hm.1 (hm.k (by decide)) ?_
      refine r_iconst C dX11_rotasOf_9 ic_1 ?_
      refine r_sld C dX11_rotasOf_10 hm (j := 1) kn_1 (by omega) ?_
      refine r_icmp_ge (tgt := 39) C dX11_rotasOf_11 rfl (fun c_11 => ?_) (fun c_11 => ?_)
      · exact absurd (by rw [r2]; exact nI_lt (by omega) (by omega)) c_11
      · skip
        refine r_iload_n C dX11_rotasOf_14 rfl ?_
        obtain ⟨m0, hm5, em⟩ := hI.2.2.2.2.1 i (by omega)
        refine r_aload_n C dX11_rotasOf_15 rfl ?_
        refine r_iload_n C dX11_rotasOf_16 rfl ?_
        refine r_iload_n C dX11_rotasOf_17 rfl ?_
        refine cvI_X11_83 C dX11_rotasOf_18 (c_X11_placeIn hm _ _ i m0 rfl (by omega) hm5 em) hm.1 (hm.k (by decide)) ⟨rfl, rfl⟩ rfl rfl rfl ?_
        refine r_if_lt (tgt := 30) C dX11_rotasOf_21 rfl (fun c_21 => ?_) (fun c_21 => ?_)
        · skip
          refine r_iconst C dX11_rotasOf_30 ic_0 ?_
          refine r_ior C dX11_rotasOf_31 ?_
          refine r_istore_n C dX11_rotasOf_32 rfl rfl ?_
          refine r_iinc C dX11_rotasOf_33 rfl (nI_inc _) rfl ?_
          refine r_goto (tgt := 4) C dX11_rotasOf_36 rfl ?_
          exact ih_4 (i + 1) _ (by omega) (by rw [← hR]; simp [cntLp, mRtsN, c_11, c_21])
        · skip
          refine r_iconst C dX11_rotasOf_24 ic_1 ?_
          refine r_iload_n C dX11_rotasOf_25 rfl ?_
          refine r_ishl C dX11_rotasOf_26 ?_
          refine r_goto (tgt := 31) C dX11_rotasOf_27 rfl ?_
          refine r_ior C dX11_rotasOf_31 ?_
          refine r_istore_n C dX11_rotasOf_32 rfl rfl ?_
          refine r_iinc C dX11_rotasOf_33 rfl (nI_inc _) rfl ?_
          refine r_goto (tgt := 4) C dX11_rotasOf_36 rfl ?_
          exact ih_4 (i + 1) _ (by omega) (by rw [← hR]; simp [cntLp, mRtsN, c_11, c_21])
  exact loop_4 R0 0 0 (by omega) rfl
set_option maxRecDepth 100000 in
set_option maxHeartbeats 4000000 in
theorem c_X11_uncovered {g : mG} {l : Launch} {tpl : mT} {b n : Nat} {v : mV} {σ : Nat → Int32} (hm : isM g tpl b n) (hI : MI σ) : CT g l tpl b n yX11_uncovered cX11_uncovered 3 (some .int) rm_X11_uncovered [.ref (b + 0)] (sv v σ) (pI (cntLp (mUncN σ) 24 0 0) (sv v σ)) := by
  refine CT.introI [some (.ref (b + 0)), none, none] (own := RX11) (by decide +kernel) rfl rfl rfl rfl ?_
  intro p e s m args below meth c Q C hE
  refine r_iconst C dX11_uncovered_0 ic_0 ?_
  refine r_istore_n C dX11_uncovered_1 rfl rfl ?_
  refine r_iconst C dX11_uncovered_2 ic_0 ?_
  refine r_istore_n C dX11_uncovered_3 rfl rfl ?_
  have loop_4 : ∀ (r : Nat) (i : Nat) (a : Int32), (i + r = 24) → (cntLp (mUncN σ) r i a = cntLp (mUncN σ) 24 0 0) → WM g p l e rm_X11_uncovered s m args below meth c Q tpl b n (sv v σ) 4 [some (.ref (b + 0)), some (.int a), some (.int (nI i))] [] := by
    intro r
    induction r with
    | zero =>
      intro i a hi hR
      refine r_iload_n C dX11_uncovered_4 rfl ?_
      refine r_bipush C dX11_uncovered_5 bp_24 ?_
      refine r_icmp_ge (tgt := 35) C dX11_uncovered_7 rfl (fun c_7 => ?_) (fun c_7 => ?_)
      · skip
        refine r_iload_n C dX11_uncovered_35 rfl ?_
        exact hE _ _ _ _ dX11_uncovered_36 (And.intro (congrArg (fun z => some (Value.int z)) (by rw [← hR]; simp only [cntLp])) rfl)
      · exact absurd c_7 (nI_nlt (a := i) (b := 24) (by omega) (by omega))
    | succ r ih_4 =>
      intro i a hi hR
      refine r_iload_n C dX11_uncovered_4 rfl ?_
      refine r_bipush C dX11_uncovered_5 bp_24 ?_
      refine r_icmp_ge (tgt := 35) C dX11_uncovered_7 rfl (fun c_7 => ?_) (fun c_7 => ?_)
      · exact absurd (nI_lt (a := i) (b := 24) (by omega) (by omega)) c_7
      · skip
        refine r_iload_n C dX11_uncovered_10 rfl ?_
        refine r_aload_n C dX11_uncovered_11 rfl ?_
        refine r_bipush C dX11_uncovered_12 bp_60 ?_
        refine r_iload_n C dX11_uncovered_14 rfl ?_
        refine r_imul C dX11_uncovered_15 ?_
        refine cvI_X11_51 C dX11_uncovered_16 (c_X11_regionAt hm (MI_R hI) _) hm.1 (hm.k (by decide)) ⟨rfl, rfl⟩ rfl rfl rfl ?_
        refine r_if_ge (tgt := 26) C dX11_uncovered_19 rfl (fun c_19 => ?_) (fun c_19 => ?_)
        · skip
          refine r_iconst C dX11_uncovered_26 ic_0 ?_
          refine r_iadd C dX11_uncovered_27 ?_
          refine r_istore_n C dX11_uncovered_28 rfl rfl ?_
          refine r_iinc C dX11_uncovered_29 rfl (nI_inc _) rfl ?_
          refine r_goto (tgt := 4) C dX11_uncovered_32 rfl ?_
          exact ih_4 (i + 1) _ (by omega) (by rw [← hR]; simp [cntLp, mUncN, c_7, c_19])
        · skip
          refine r_iconst C dX11_uncovered_22 ic_1 ?_
          refine r_goto (tgt := 27) C dX11_uncovered_23 rfl ?_
          refine r_iadd C dX11_uncovered_27 ?_
          refine r_istore_n C dX11_uncovered_28 rfl rfl ?_
          refine r_iinc C dX11_uncovered_29 rfl (nI_inc _) rfl ?_
          refine r_goto (tgt := 4) C dX11_uncovered_32 rfl ?_
          exact ih_4 (i + 1) _ (by omega) (by rw [← hR]; simp [cntLp, mUncN, c_7, c_19])
  exact loop_4 24 0 0 rfl rfl
set_option maxRecDepth 100000 in
set_option maxHeartbeats 4000000 in
theorem c_X11_onCall {g : mG} {l : Launch} {tpl : mT} {b n : Nat} {v : mV} {σ : Nat → Int32} (hm : isM g tpl b n) (hI : MI σ) (x y : Int32) : CT g l tpl b n yX11_onCall cX11_onCall 5 (some .int) rm_X11_onCall [.ref (b + 0), .int x, .int y] (sv v σ) (pI (mOnCall σ x y) (sv v σ)) := by
  refine CT.introI [some (.ref (b + 0)), some (.int x), some (.int y), none, none] (own := RX11) (by decide +kernel) rfl rfl rfl rfl ?_
  intro p e s m args below meth c Q C hE
  refine r_iload_n C dX11_onCall_0 rfl ?_
  refine r_iconst C dX11_onCall_1 ic_0 ?_
  refine r_sipush C dX11_onCall_2 sp_30000 ?_
  refine cvI_X11_32 C dX11_onCall_5 (c_X11_in _ _ _) ⟨rfl, rfl⟩ rfl rfl rfl ?_
  refine r_if_eq (tgt := 21) C dX11_onCall_8 rfl (fun c_8 => ?_) (fun c_8 => ?_)
  · skip
    refine r_iconst C dX11_onCall_21 ic_m1 ?_
    exact hE _ _ _ _ dX11_onCall_22 (by simp [pI, mOnCall, c_8])
  · skip
    refine r_iload_n C dX11_onCall_11 rfl ?_
    refine r_iconst C dX11_onCall_12 ic_m1 ?_
    refine r_bipush C dX11_onCall_13 bp_9 ?_
    refine cvI_X11_32 C dX11_onCall_15 (c_X11_in _ _ _) ⟨rfl, rfl⟩ rfl rfl rfl ?_
    refine r_if_ne (tgt := 23) C dX11_onCall_18 rfl (fun c_18 => ?_) (fun c_18 => ?_)
    · skip
      obtain ⟨M, hM, rfl⟩ := mIn_le (n := 30000) (by decide +kernel) c_8
      obtain ⟨T, hT, eT, -⟩ := hI.2.2.1
      have eT2 : σ 2 + nI M = nI (T + M) := by rw [eT, nI_add]
      refine r_aload_n C dX11_onCall_23 rfl ?_
      refine gf_X11_7 C dX11_onCall_24 hm.1 (hm.k (by decide)) ?_
      refine r_iconst C dX11_onCall_27 ic_2 ?_
      refine r_sld C dX11_onCall_28 hm (j := 2) kn_2 (by omega) ?_
      refine r_iload_n C dX11_onCall_29 rfl ?_
      refine r_iadd C dX11_onCall_30 ?_
      refine r_istore_n C dX11_onCall_31 rfl rfl ?_
      refine r_iload_n C dX11_onCall_32 rfl ?_
      refine r_if_ge (tgt := 44) C dX11_onCall_33 rfl (fun c_33 => ?_) (fun c_33 => ?_)
      · skip
        obtain ⟨l0, hl0, rfl⟩ : ∃ l, l ≤ 9 ∧ y = nI l := nI_of2 (n := 9) (M := 9) (by decide +kernel) c_33 (mIn_hi c_18)
        refine r_aload_n C dX11_onCall_44 rfl ?_
        refine r_iload_n C dX11_onCall_45 rfl ?_
        refine r_iload_n C dX11_onCall_46 rfl ?_
        refine cvI_X11_57 C dX11_onCall_47 (c_X11_personAt hm hI _ _ (T + M) (by omega) eT2 l0 (by omega) rfl) hm.1 (hm.k (by decide)) ⟨rfl, rfl⟩ rfl rfl rfl ?_
        refine r_istore C dX11_onCall_50 rfl rfl ?_
        refine r_iload C dX11_onCall_52 rfl ?_
        refine r_if_ge (tgt := 62) C dX11_onCall_54 rfl (fun c_54 => ?_) (fun c_54 => ?_)
        · skip
          refine r_iload C dX11_onCall_62 rfl ?_
          exact hE _ _ _ _ dX11_onCall_64 (by simp [pI, mOnCall, c_8, c_18, c_33, c_54])
        · skip
          refine r_bipush C dX11_onCall_57 bp_m4 ?_
          refine r_goto (tgt := 64) C dX11_onCall_59 rfl ?_
          exact hE _ _ _ _ dX11_onCall_64 (by simp [pI, mOnCall, c_8, c_18, c_33, c_54])
      · skip
        refine r_aload_n C dX11_onCall_36 rfl ?_
        refine r_iload_n C dX11_onCall_37 rfl ?_
        refine cvI_X11_51 C dX11_onCall_38 (c_X11_regionAt hm (MI_R hI) _) hm.1 (hm.k (by decide)) ⟨rfl, rfl⟩ rfl rfl rfl ?_
        refine r_goto (tgt := 50) C dX11_onCall_41 rfl ?_
        refine r_istore C dX11_onCall_50 rfl rfl ?_
        refine r_iload C dX11_onCall_52 rfl ?_
        refine r_if_ge (tgt := 62) C dX11_onCall_54 rfl (fun c_54 => ?_) (fun c_54 => ?_)
        · skip
          refine r_iload C dX11_onCall_62 rfl ?_
          exact hE _ _ _ _ dX11_onCall_64 (by simp [pI, mOnCall, c_8, c_18, c_33, c_54])
        · skip
          refine r_bipush C dX11_onCall_57 bp_m4 ?_
          refine r_goto (tgt := 64) C dX11_onCall_59 rfl ?_
          exact hE _ _ _ _ dX11_onCall_64 (by simp [pI, mOnCall, c_8, c_18, c_33, c_54])
    · skip
      refine r_iconst C dX11_onCall_21 ic_m1 ?_
      exact hE _ _ _ _ dX11_onCall_22 (by simp [pI, mOnCall, c_8, c_18])
