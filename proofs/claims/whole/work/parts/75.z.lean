/-! ===== class and reference: the twelve changes ===== -/
section ZOPS
variable {v w : mV} {N st B : Nat}
theorem ZR.prep (hZ : ZR v w N st B) : Rep (zPrep v) 1 (w 1) 0 := Rep_prep hZ.1.1 hZ.2.2.1.1 hZ.2.2.1.2.2 hZ.1.2.2.2.1
theorem ZR.hb (hZ : ZR v w N st B) : hB (zPrep v) 1 := hB_of hZ.1.2.2.2.2.1 (fun i hi => zPrep_lo hZ.2.2.1.1 hZ.2.2.1.2.2 (by omega) hZ.1.2.2.2.1)
theorem z_person (hZ : ZR v w N st B) : (zSet (rsAddPerson (zPrep v) 1)).1 = (mDone w (w 1) st (mComes (w 1))).1 ∧ ∃ st', ZR (zSet (rsAddPerson (zPrep v) 1)).2 (mDone w (w 1) st (mComes (w 1))).2 N st' B :=
  zr_set hZ (ok_person hZ.prep hZ.1.2.1) (Nat.le_refl B) (fun q hq => rsAddPerson_out (by omega)) (hB_of hZ.hb (fun i hi => rsAddPerson_out (by omega)))
theorem z_region (hZ : ZR v w N st B) (x y z : Int32) : (zSet (rsAddRegion (zPrep v) 1 x y z)).1 = (mDone w (w 1) st (mLies (w 1) x y z)).1 ∧ ∃ st', ZR (zSet (rsAddRegion (zPrep v) 1 x y z)).2 (mDone w (w 1) st (mLies (w 1) x y z)).2 N st' B :=
  zr_set hZ (ok_region hZ.prep hZ.1.2.1 x y z) (Nat.le_refl B) (fun q hq => rsAddRegion_out (by omega)) (hB_of hZ.hb (fun i hi => rsAddRegion_out (by omega)))
theorem z_join (hZ : ZR v w N st B) (x y : Int32) : (zSet (rsJoin (zPrep v) 1 x y)).1 = (mDone w (w 1) st (mJoins (w 1) x y)).1 ∧ ∃ st', ZR (zSet (rsJoin (zPrep v) 1 x y)).2 (mDone w (w 1) st (mJoins (w 1) x y)).2 N st' B :=
  zr_set hZ (ok_join hZ.prep hZ.1.2.1 x y) (Nat.le_refl B) (fun q hq => rsJoin_out (by omega)) (hB_of hZ.hb (fun i hi => rsJoin_out (by omega)))
theorem z_leave (hZ : ZR v w N st B) (x y : Int32) : (zSet (rsLeave (zPrep v) 1 x y)).1 = (mDone w (w 1) st (mLeaves (w 1) x y)).1 ∧ ∃ st', ZR (zSet (rsLeave (zPrep v) 1 x y)).2 (mDone w (w 1) st (mLeaves (w 1) x y)).2 N st' B :=
  zr_set hZ (ok_leave hZ.prep hZ.1.2.1 x y) (Nat.le_refl B) (fun q hq => rsLeave_out (by omega)) (hB_of hZ.hb (fun i hi => rsLeave_out (by omega)))
theorem z_quiet (hZ : ZR v w N st B) (x y z : Int32) : (zSet (rsQuiet (zPrep v) 1 x y z)).1 = (mDone w (w 1) st (mRests (w 1) x y z)).1 ∧ ∃ st', ZR (zSet (rsQuiet (zPrep v) 1 x y z)).2 (mDone w (w 1) st (mRests (w 1) x y z)).2 N st' B :=
  zr_set hZ (ok_quiet hZ.prep hZ.1.2.1 x y z) (Nat.le_refl B) (fun q hq => rsQuiet_out (by omega)) (hB_of hZ.hb (fun i hi => rsQuiet_out (by omega)))
theorem z_except (hZ : ZR v w N st B) (x y : Int32) : (zSet (rsExcept (zPrep v) 1 x y)).1 = (mDone w (w 1) st (mExcs (w 1) x y)).1 ∧ ∃ st', ZR (zSet (rsExcept (zPrep v) 1 x y)).2 (mDone w (w 1) st (mExcs (w 1) x y)).2 N st' B :=
  zr_set hZ (ok_except hZ.prep hZ.1.2.1 x y) (Nat.le_refl B) (fun q hq => rsExcept_out (by omega)) (hB_of hZ.hb (fun i hi => rsExcept_out (by omega)))
theorem z_override (hZ : ZR v w N st B) (x y z : Int32) : (zSet (hsPutStand (zPrep v) 1 x y z)).1 = (mDone w (w 1) st (mOverrides (w 1) x y z)).1 ∧ ∃ st', ZR (zSet (hsPutStand (zPrep v) 1 x y z)).2 (mDone w (w 1) st (mOverrides (w 1) x y z)).2 N st' B :=
  zr_set hZ (ok_override hZ.prep hZ.1.2.1 x y z) (Nat.le_refl B) (fun q hq => hsPutStand_hi (by omega)) (hB_of hZ.hb (fun i hi => hsPutStand_hi (by omega)))
theorem z_alert (hZ : ZR v w N st B) (x y : Int32) : (zSet (hsAlert (zPrep v) 1 x y)).1 = (mDone w (w 1) st (mAlerts (w 1) x y)).1 ∧ ∃ st', ZR (zSet (hsAlert (zPrep v) 1 x y)).2 (mDone w (w 1) st (mAlerts (w 1) x y)).2 N st' B :=
  zr_set hZ (ok_alert hZ.prep hZ.1.2.1 x y) (Nat.le_refl B) (fun q hq => hsAlert_out (by omega)) (hsAlert_B hZ.hb)
theorem z_ack (hZ : ZR v w N st B) (x : Int32) : (zSet (hsAck (zPrep v) 1 x)).1 = (mDone w (w 1) st (mAcks (w 1) x)).1 ∧ ∃ st', ZR (zSet (hsAck (zPrep v) 1 x)).2 (mDone w (w 1) st (mAcks (w 1) x)).2 N st' (B + 1) :=
  zr_set hZ (ok_ack hZ.prep hZ.1.2.1 x) (by omega) (fun q hq => hsAck_out (by omega)) (hsAck_B hZ.hb)
theorem z_close (hZ : ZR v w N st B) (x : Int32) : (zSet (hsClose (zPrep v) 1 x)).1 = (mDone w (w 1) st (mResolves (w 1) x)).1 ∧ ∃ st', ZR (zSet (hsClose (zPrep v) 1 x)).2 (mDone w (w 1) st (mResolves (w 1) x)).2 N st' B :=
  zr_set hZ (ok_close hZ.prep hZ.1.2.1 x) (Nat.le_refl B) (fun q hq => hsClose_out (by omega)) (hsClose_B hZ.hb)
theorem z_pass (hZ : ZR v w N st B) (x : Int32) : (zSet (hsPass (zPrep v) 1 x)).1 = (mDone w (w 1) st (mPass (w 1) x)).1 ∧ ∃ st', ZR (zSet (hsPass (zPrep v) 1 x)).2 (mDone w (w 1) st (mPass (w 1) x)).2 N st' B :=
  zr_set hZ (ok_pass hZ.prep hZ.1.2.1 x) (Nat.le_refl B) (fun q hq => hsPass_out (by omega)) (hsPass_B hZ.hb)
theorem hsSet_B {v : mV} {h : Nat} {x y : Int32} (hb : hB v h) : hB (hsSet v h x y).2 h := hB_of hb (fun i hi => hsSet_out (by omega))
theorem z_set (hZ : ZR v w N st B) (x y : Int32) : (zSet (hsSet (zPrep v) 1 x y)).1 = (mDone w (w 1) st (mSets (w 1) x y)).1 ∧ ∃ st', ZR (zSet (hsSet (zPrep v) 1 x y)).2 (mDone w (w 1) st (mSets (w 1) x y)).2 N st' B :=
  zr_set hZ (ok_set hZ.prep hZ.1.2.1 x y) (Nat.le_refl B) (fun q hq => hsSet_out (by omega)) (hsSet_B hZ.hb)
end ZOPS
/-! ===== class and reference: what is asked ===== -/
section ZQ
variable {v : mV} {σ : Nat → Int32} {B : Nat}
theorem not_m1 {x : Int32} {n : Nat} (h : x = nI n) (hn : n < 2147483648) : ¬ x = -1 := fun z => nI_nneg hn (by rw [← h, z]; decide)
theorem q_rotaAt (hR : Rep v 1 σ 0) (hV : INV σ B) (x y : Int32) : zRotaAt v x y = mRotaAt σ x y := by
  have hI := hV.MI
  unfold zRotaAt mRotaAt
  rw [rep_hasR hR hI]
  by_cases h1 : mIn x 0 (σ 1 - 1) = 0
  · rw [if_pos h1, if_pos h1]
  · rw [if_neg h1, if_neg h1]
    by_cases h2 : y < 0
    · rw [if_pos h2, if_pos h2]
    · rw [if_neg h2, if_neg h2]
      obtain ⟨k, hk, rfl⟩ := mIn_R hI h1
      rw [nI_clamp (show k < 2 ^ 31 by omega)]
      obtain ⟨m, hm, em⟩ := hI.2.2.2.2.1 k hk
      obtain ⟨-, -, -, d4, d5⟩ := hR.2.2.2.1 k hk
      obtain ⟨j, hj, rfl⟩ := nI_of h2
      rw [d4, em]
      unfold rgMember
      rw [if_neg h2]
      by_cases h3 : j < m
      · obtain ⟨p, hp, ep⟩ := hI.2.2.2.2.2.1 k j hk (by omega)
        rw [if_pos ((na_lt rfl rfl hj (by omega)).mpr h3), if_pos ((na_lt rfl kn_5 hj (by omega)).mpr (by omega)), nI_clamp (show j < 2 ^ 31 by omega), if_pos ((na_lt rfl rfl hj (by omega)).mpr h3), d5 j (by omega), if_neg (not_m1 ep (by omega))]
      · rw [if_neg (fun z => h3 ((na_lt rfl rfl hj (by omega)).mp z)), if_pos rfl, if_neg (fun z => h3 ((na_lt rfl rfl hj (by omega)).mp z))]
theorem own_eq (hR : Rep v 1 σ 0) (hV : INV σ B) {x y : Int32} (hy : y = 0 ∨ y = 1) : cntLp (hsOwnN v 1 x y) 8 0 0 = cntLp (mOwnN σ x y) 8 0 0 := by
  obtain ⟨T, P, hN, -⟩ := hV
  refine cntLp_c 8 0 0 (fun i _ hi a => ?_)
  obtain ⟨x0, x1⟩ := hR.2.2.2.2.2 i (by omega)
  unfold hsOwnN mOwnN
  rw [x0]
  rcases hN.1.2.2.1 i (by omega) with ho | ho
  · rw [if_pos ho, if_pos ((mInc_nI0 (show i < 8 by omega)).mpr (by rw [ho]; decide)), Int32.add_zero]
  · obtain ⟨⟨f1, f2, f3, f4, f5, f6, f7⟩, -⟩ := x1 ho
    obtain ⟨-, q2, -⟩ := hN.1.2.2.2 i (by omega) ho
    rw [if_neg (show ¬ σ (101 + 16 * i) = 0 by rw [ho]; decide), if_neg (fun z => (mInc_nI0 (show i < 8 by omega)).mp z ho), f4, f7]
    have hiff : σ (101 + 16 * i + 4) - 1 = x ↔ σ (101 + 16 * i + 4) = x + 1 := ⟨fun z => by rw [← z, Int32.sub_add_cancel], fun z => by rw [z, Int32.add_sub_cancel]⟩
    by_cases hx : σ (101 + 16 * i + 4) = x + 1
    · rw [if_pos (hiff.mpr hx), if_pos hx]
      rcases q2 with e | e
      · rw [e, if_pos rfl, if_neg (show ¬ (0 : Int32) = 1 by decide)]
        rcases hy with rfl | rfl
        · rw [if_pos rfl, if_pos rfl]
        · rw [if_neg (by decide), if_neg (by decide), Int32.add_zero]
      · rw [e, if_neg (show ¬ (1 : Int32) = 0 by decide), if_pos rfl]
        split <;> rfl
    · rw [if_neg (fun z => hx (hiff.mp z)), if_neg hx, Int32.add_zero]
theorem rots_eq (hR : Rep v 1 σ 0) (hI : MI σ) (hD : ID σ) {R : Nat} (hR3 : R ≤ 3) (eR : σ 1 = nI R) (x : Int32) : ∀ (r q i : Nat) (a : Int32), i + r = 3 → i + q = R → rsRegsLp v 1 x r i a = cntLp (mRtsN σ x) q i a
  | 0, q, i, a, h1, h2 => by
    have : q = 0 := by omega
    subst this
    rfl
  | r + 1, 0, i, a, h1, h2 => by
    unfold rsRegsLp
    rw [hR.1.1.2.1, eR, if_neg (by rw [na_lt rfl rfl (by omega) (by omega)]; omega)]
    rfl
  | r + 1, q + 1, i, a, h1, h2 => by
    obtain ⟨m, hm, em⟩ := hI.2.2.2.2.1 i (by omega)
    unfold rsRegsLp
    rw [hR.1.1.2.1, eR, if_pos ((na_lt rfl rfl (by omega) (by omega)).mpr (by omega)), rep_place hR hI hD (by omega), cntLp, ← rots_eq hR hI hD hR3 eR x r q (i + 1) _ (by omega) (by omega)]
    congr 1
    unfold mRtsN
    rcases place_or (show i < 3 by omega) hD hm em x with ⟨e, -⟩ | ⟨j, hj, e, -⟩
    · rw [e, if_pos rfl, if_pos (show (-1 : Int32) < 0 by decide), Int32.or_zero]
    · rw [e, if_neg (not_m1 rfl (by omega)), if_neg (nI_nneg (by omega))]
theorem q_personOf (hR : Rep v 1 σ 0) (hV : INV σ B) (x y : Int32) : zPersonOf v x y = mPersonOf σ x y := by
  have hI := hV.MI
  have hown := fun {x y} => own_eq (x := x) (y := y) hR hV
  obtain ⟨T, P, hN, -⟩ := hV
  have hD := hN.2.2.2.2.2
  unfold zPersonOf mPersonOf
  rw [rep_hasP hR hI]
  by_cases h1 : mIn x 0 (σ 0 - 1) = 0
  · rw [if_pos h1, if_pos h1]
  · rw [if_neg h1, if_neg h1]
    obtain ⟨j, hj, rfl⟩ := mIn_P hI h1
    rw [nI_clamp (show j < 2 ^ 31 by omega)]
    obtain ⟨d1, d2, d3, d4, d5⟩ := hR.2.2.1 j hj
    obtain ⟨R, r1, r2⟩ := MI_R hI
    rw [hown (Or.inl rfl), hown (Or.inr rfl), rots_eq hR hI hD r1 r2 (nI j) 3 R 0 0 rfl (by omega), d1, d2, d3, d4, d5, hR.1.2.1.1, show (σ 1).toNatClampNeg = R by rw [r2]; exact nI_clamp (by omega)]
    by_cases hin : mIn y 0 6 = 0
    · rw [if_pos hin]
      have hno : ∀ k : Nat, k ≤ 6 → ¬ y = nI k := fun k hk z => by
        rw [z] at hin
        have : ∀ k : Nat, k ≤ 6 → ¬ mIn (nI k) 0 6 = 0 := fun k hk => by
          have h : ∀ k : Nat, k < 7 → mIn (nI k) 0 6 = 1 := by decide +kernel
          rw [h k (by omega)]; decide
        exact this k hk hin
      rw [if_neg (fun z => hno 0 (by omega) (z.trans kn_0)), if_neg (fun z => hno 1 (by omega) (z.trans kn_1)), if_neg (fun z => hno 2 (by omega) (z.trans kn_2)), if_neg (fun z => hno 3 (by omega) (z.trans kn_3)), if_neg (fun z => hno 4 (by omega) (z.trans kn_4)), if_neg (fun z => hno 5 (by omega) (z.trans kn_5)), if_neg (fun z => hno 6 (by omega) (z.trans kn_6))]
    · rw [if_neg hin]
      obtain ⟨k, hk, rfl⟩ := mIn_le (n := 6) (by decide +kernel) hin
      have : k = 0 ∨ k = 1 ∨ k = 2 ∨ k = 3 ∨ k = 4 ∨ k = 5 ∨ k = 6 := by omega
      rcases this with rfl | rfl | rfl | rfl | rfl | rfl | rfl <;> rfl
end ZQ
