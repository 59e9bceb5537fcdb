/-! ===== class and reference: more that is asked ===== -/
section ZQ2
variable {v w : mV} {σ : Nat → Int32} {B : Nat}
theorem q_incidentOf (hR : Rep v 1 σ 0) (hV : INV σ B) (x y : Int32) : zIncidentOf v x y = mIncidentOf σ x y := by
  obtain ⟨T, P, hN, hW, hF⟩ := hV
  have hI := hN.1.2.1.1
  unfold zIncidentOf mIncidentOf
  rw [rep_open hR hN.1.2.2.1]
  by_cases h1 : mInc σ x = 0
  · rw [if_pos h1, if_pos h1]
  · rw [if_neg h1, if_neg h1]
    obtain ⟨i, hi, rfl⟩ := mInc_of h1
    have ho : σ (101 + 16 * i) = 1 := Classical.byContradiction (fun z => h1 ((mInc_nI0 hi).mpr z))
    obtain ⟨x0, x1⟩ := hR.2.2.2.2.2 i hi
    obtain ⟨⟨f1, f2, f3, f4, f5, f6, f7⟩, g1, g2, g3, g4, g5, g6⟩ := x1 ho
    obtain ⟨w, hw, ew⟩ := hI.2.2.2.2.2.2.2 i hi
    obtain ⟨q1, q2, q3⟩ := hN.1.2.2.2 i hi ho
    unfold mIncD
    rw [nI_clamp (show i < 2 ^ 31 by omega), f1, f2, f3, f4, f6, f7, g1, g2, g3, g4, g5, g6]
    by_cases hin : mIn y 0 11 = 0
    · rw [if_pos hin]
      have hno : ∀ k : Nat, k ≤ 11 → ¬ y = nI k := fun k hk z => by
        rw [z] at hin
        have h : ∀ k : Nat, k < 12 → mIn (nI k) 0 11 = 1 := by decide +kernel
        rw [h k (by omega)] at hin
        exact absurd hin (by decide)
      rw [if_neg (fun z => hno 0 (by omega) (z.trans kn_0)), if_neg (fun z => hno 1 (by omega) (z.trans kn_1)), if_neg (fun z => hno 2 (by omega) (z.trans kn_2)), if_neg (fun z => hno 3 (by omega) (z.trans kn_3)), if_neg (fun z => hno 4 (by omega) (z.trans kn_4)), if_neg (fun z => hno 5 (by omega) (z.trans kn_5)), if_neg (fun z => hno 6 (by omega) (z.trans kn_6)), if_neg (fun z => hno 7 (by omega) (z.trans kn_7)), if_neg (fun z => hno 8 (by omega) (z.trans kn_8)), if_neg (fun z => hno 9 (by omega) (z.trans kn_9)), if_neg (fun z => hno 10 (by omega) (z.trans kn_10)), if_neg (fun z => hno 11 (by omega) (z.trans (by decide +kernel)))]
    · rw [if_neg hin]
      have e3 : (if σ (101 + 16 * i + 4) - 1 = -1 then (-4 : Int32) else σ (101 + 16 * i + 4) - 1) = if σ (101 + 16 * i + 4) = 0 then -4 else σ (101 + 16 * i + 4) - 1 := by
        by_cases hw0 : w = 0
        · subst hw0
          rw [if_pos (by rw [ew]; decide), if_pos (by rw [ew]; decide)]
        · rw [if_neg (show ¬ σ (101 + 16 * i + 4) - 1 = -1 by rw [ew, show w = w - 1 + 1 by omega, nI_pred]; exact not_m1 rfl (by omega)), if_neg (show ¬ σ (101 + 16 * i + 4) = 0 by rw [ew]; exact fun z => hw0 ((na_eq rfl kn_0 (by omega) (by omega)).mp z))]
      have e4 : (if σ (101 + 16 * i + 5) = 0 then (0 : Int32) else 1) = σ (101 + 16 * i + 5) := by
        rcases q2 with e | e
        · rw [e, if_pos rfl]
        · rw [e, if_neg (by decide)]
      have e9 : (if (if σ (101 + 16 * i + 14) = 0 then (-1 : Int32) else σ (101 + 16 * i + 10)) = -1 then (-4 : Int32) else (if σ (101 + 16 * i + 14) = 0 then (-1 : Int32) else σ (101 + 16 * i + 10))) = if σ (101 + 16 * i + 14) = 0 then -4 else σ (101 + 16 * i + 10) := by
        by_cases h0 : σ (101 + 16 * i + 14) = 0
        · rw [if_pos h0, if_pos rfl, if_pos h0]
        · rw [if_neg h0, if_neg h0, if_neg]
          rcases hF i hi ho with h | h
          · exact absurd h h0
          · exact fun z => h (by rw [z]; decide)
      rw [e3, e4, e9]
      obtain ⟨k, hk, rfl⟩ := mIn_le (n := 11) (by decide +kernel) hin
      rw [nI_clamp (show k < 2 ^ 31 by omega)]
      have : k = 0 ∨ k = 1 ∨ k = 2 ∨ k = 3 ∨ k = 4 ∨ k = 5 ∨ k = 6 ∨ k = 7 ∨ k = 8 ∨ k = 9 ∨ k = 10 ∨ k = 11 := by omega
      rcases this with rfl | rfl | rfl | rfl | rfl | rfl | rfl | rfl | rfl | rfl | rfl | rfl <;> rfl
theorem open_eq (hR : Rep v 1 σ 0) (hB : IB σ) : cntLp (hsOpenN v 1) 8 0 0 = cntLp (mOpnN σ 3) 8 0 0 := by
  refine cntLp_c 8 0 0 (fun i _ hi a => ?_)
  unfold hsOpenN mOpnN
  rw [(hR.2.2.2.2.2 i (by omega)).1]
  rcases hB i (by omega) with ho | ho
  · rw [if_pos ho, if_pos ((mInc_nI0 (show i < 8 by omega)).mpr (by rw [ho]; decide)), Int32.add_zero]
  · rw [if_neg (show ¬ σ (101 + 16 * i) = 0 by rw [ho]; decide), if_neg (fun z => (mInc_nI0 (show i < 8 by omega)).mp z ho), if_pos rfl]
theorem lone_eq (hR : Rep v 1 σ 0) (hV : INV σ B) : cntLp (hsOwnN v 1 (-1) 0) 8 0 0 = cntLp (mOpnN σ 4) 8 0 0 := by
  rw [own_eq hR hV (Or.inl rfl)]
  refine cntLp_c 8 0 0 (fun i _ hi a => ?_)
  unfold mOwnN mOpnN
  rw [show (-1 : Int32) + 1 = 0 by decide, if_neg (show ¬ (4 : Int32) = 3 by decide), if_pos (show (4 : Int32) = 4 from rfl), if_pos (show (0 : Int32) = 0 from rfl), if_neg (show ¬ (4 : Int32) = 5 by decide)]
theorem acks_eq (hR : Rep v 1 σ 0) (hV : INV σ B) : cntLp (hsAckN v 1) 8 0 0 = cntLp (mOpnN σ 5) 8 0 0 := by
  obtain ⟨T, P, hN, -⟩ := hV
  refine cntLp_c 8 0 0 (fun i _ hi a => ?_)
  obtain ⟨x0, x1⟩ := hR.2.2.2.2.2 i (by omega)
  unfold hsAckN mOpnN
  rw [x0, if_neg (show ¬ (5 : Int32) = 3 by decide), if_neg (show ¬ (5 : Int32) = 4 by decide), if_pos (show (5 : Int32) = 5 from rfl)]
  rcases hN.1.2.2.1 i (by omega) with ho | ho
  · rw [if_pos ho, if_pos ((mInc_nI0 (show i < 8 by omega)).mpr (by rw [ho]; decide)), Int32.add_zero]
  · obtain ⟨⟨f1, f2, f3, f4, f5, f6, f7⟩, -⟩ := x1 ho
    obtain ⟨-, q2, -⟩ := hN.1.2.2.2 i (by omega) ho
    rw [if_neg (show ¬ σ (101 + 16 * i) = 0 by rw [ho]; decide), if_neg (fun z => (mInc_nI0 (show i < 8 by omega)).mp z ho), f7]
    rcases q2 with e | e
    · rw [e, if_pos rfl, if_neg (by decide), Int32.add_zero]
    · rw [e, if_neg (by decide), if_pos rfl]
theorem force_eq (hR : Rep v 1 σ 0) {O : Nat} (hO : O ≤ 6) (eO : σ 15 = nI O) : ∀ (r q i : Nat) (a : Int32), i + r = 6 → i + q = O → rsForceLp v 1 (v 1 3) r i a = mFrcLp σ q i a
  | 0, q, i, a, h1, h2 => by
    have : q = 0 := by omega
    subst this
    rfl
  | r + 1, 0, i, a, h1, h2 => by
    unfold rsForceLp
    rw [hR.1.1.2.2, eO, if_neg (by rw [na_lt rfl rfl (by omega) (by omega)]; omega)]
    rfl
  | r + 1, q + 1, i, a, h1, h2 => by
    obtain ⟨-, -, t3⟩ := hR.2.2.2.2.1 i (by omega)
    unfold rsForceLp mFrcLp
    rw [hR.1.1.2.2, eO, if_pos ((na_lt rfl rfl (by omega) (by omega)).mpr (by omega)), t3]
    have hz : (if v 1 3 < σ (83 + 3 * i + 2) then a + 1 else a) = a + (if σ 2 < σ (83 + 3 * i + 2) then 1 else 0) := by
      rw [hR.1.2.1.1]
      split
      · rfl
      · rw [Int32.add_zero]
    rw [hz]
    exact force_eq hR hO eO r q (i + 1) _ (by omega) (by omega)
theorem q_count (hR : Rep v 1 σ 0) (hV : INV σ B) (h14 : v 93 1 = w 0 4) (h15 : v 325 2 = w 0 6) (x : Int32) : zCount v x = mCount w σ x := by
  have hI := hV.MI
  have hB : IB σ := by obtain ⟨T, P, hN, -⟩ := hV; exact hN.1.2.2.1
  obtain ⟨O, hO, eO⟩ := hI.2.2.2.1
  obtain ⟨⟨a1, a2, a3⟩, ⟨b1, b2, b3⟩, c1, c2, c3, c4, c5, c6, c7, c8, c9⟩ := hR.1
  have hf : rsForceLp v 1 (v 1 3) 6 0 0 = mForce σ := by
    unfold mForce
    rw [eO, nI_clamp (show O < 2 ^ 31 by omega)]
    exact force_eq hR hO eO 6 O 0 0 rfl (by omega)
  unfold zCount mCount toNum
  rw [open_eq hR hB, lone_eq hR hV, acks_eq hR hV, hf, a1, a2, b1, b2, b3, h14, h15, c1, c2, c3, c4, c5, c6, c7]
  by_cases e0 : x = 0
  · subst e0; simp
  by_cases e1 : x = 1
  · subst e1; simp
  by_cases e2 : x = 2
  · subst e2; simp
  by_cases e3 : x = 3
  · subst e3; simp
  by_cases e4 : x = 4
  · subst e4; simp
  by_cases e5 : x = 5
  · subst e5; simp
  by_cases e6 : x = 6
  · subst e6; simp
  by_cases e7 : x = 7
  · subst e7; simp
  by_cases e8 : x = 8
  · subst e8; simp
  by_cases e9 : x = 9
  · subst e9; simp
  by_cases e10 : x = 10
  · subst e10; simp
  by_cases e11 : x = 11
  · subst e11; simp
  by_cases e12 : x = 12
  · subst e12; simp
  by_cases e13 : x = 13
  · subst e13; simp
  by_cases e14 : x = 14
  · subst e14; simp
  by_cases e15 : x = 15
  · subst e15; simp
  by_cases e20 : x = 20
  · subst e20; simp
  by_cases e21 : x = 21
  · subst e21; simp
  simp only [if_neg e0, if_neg e1, if_neg e2, if_neg e3, if_neg e4, if_neg e5, if_neg e6, if_neg e7, if_neg e8, if_neg e9, if_neg e10, if_neg e11, if_neg e12, if_neg e13, if_neg e14, if_neg e15, if_neg e20, if_neg e21, ite_self]
theorem found_eq {x y : Int32} (h : x = -1 ∨ ¬ x < 0) : zFound x = if x < 0 then -4 else x := by
  unfold zFound
  rcases h with rfl | h
  · rfl
  · rw [if_neg h, if_neg (fun z => h (by rw [z]; decide))]
theorem region_or (hI : MI σ) (t : Int32) : mRegion σ t = -1 ∨ ¬ mRegion σ t < 0 := by
  rcases mRegion_or hI t with e | ⟨j, hj, e, -⟩
  · exact Or.inl e
  · exact Or.inr (by rw [e]; exact nI_nneg (by omega))
theorem q_onCall (hR : Rep v 1 σ 0) (hV : INV σ B) (x y : Int32) : zOnCall v x y = mOnCall σ x y := by
  have hI := hV.MI
  obtain ⟨T, P, hN, -⟩ := hV
  have eT := hN.1.2.1.2.1
  have hT3 := hN.1.1
  unfold zOnCall mOnCall
  by_cases h1 : x < 0
  · rw [if_pos h1, if_pos (by unfold mIn; rw [if_pos h1])]
  · rw [if_neg h1]
    by_cases h2 : 30000 < x
    · rw [if_pos h2, if_pos (by unfold mIn; rw [if_neg h1, if_pos h2])]
    · have hx : ¬ mIn x 0 30000 = 0 := by unfold mIn; rw [if_neg h1, if_neg h2]; decide
      rw [if_neg h2, if_neg hx]
      obtain ⟨M, hM, rfl⟩ := mIn_le (n := 30000) (by decide +kernel) hx
      by_cases h3 : y < -1
      · rw [if_pos h3, if_pos (by unfold mIn; rw [if_pos h3])]
      · rw [if_neg h3]
        by_cases h4 : 9 < y
        · rw [if_pos h4, if_pos (by unfold mIn; rw [if_neg h3, if_pos h4])]
        · rw [if_neg h4, if_neg (show ¬ mIn y (-1) 9 = 0 by unfold mIn; rw [if_neg h3, if_neg h4]; decide)]
          have et : v 1 3 + nI M = nI (T + M) := by rw [hR.1.2.1.1, eT, nI_add]
          have et2 : σ 2 + nI M = nI (T + M) := by rw [eT, nI_add]
          rw [et, et2, rep_region hR hI]
          by_cases h5 : y = -1
          · subst h5
            rw [if_pos rfl, if_pos (show (-1 : Int32) < 0 by decide)]
            exact found_eq (y := 0) (region_or hI _)
          · have hy0 : ¬ y < 0 := fun z => by
              have h6 : y ≤ -1 := by
                rw [Int32.le_iff_toInt_le]
                rw [Int32.lt_iff_toInt_lt] at z
                have : (0 : Int32).toInt = 0 := by decide
                have : (-1 : Int32).toInt = -1 := by decide
                omega
              exact h5 (Int32.le_antisymm h6 (Int32.not_lt.mp h3))
            rw [if_neg h5, if_neg hy0]
            obtain ⟨l, hl, rfl⟩ := nI_of2 (x := y) (n := 9) (M := 9) (by decide +kernel) hy0 (Int32.not_lt.mp h4)
            rw [rep_person hR hI (T := T + M) (l := l) (by omega) rfl (by omega) rfl]
            refine found_eq (y := 0) ?_
            rcases mPerson_or hI (t := nI (T + M)) (lv := nI l) (T := T + M) (l := l) (by omega) rfl (by omega) rfl with e | ⟨p, hp, e⟩
            · exact Or.inl e
            · exact Or.inr (by rw [e]; exact nI_nneg (by omega))
theorem q_uncovered (hR : Rep v 1 σ 0) (hV : INV σ B) : cntLp (zUncN v) 24 0 0 = cntLp (mUncN σ) 24 0 0 := by
  have hI := hV.MI
  refine cntLp_c 24 0 0 (fun i _ hi a => ?_)
  unfold zUncN mUncN
  rw [rep_region hR hI, Int32.mul_comm]
  rcases region_or hI (60 * nI i) with e | e
  · rw [e, if_pos rfl, if_pos (by decide)]
  · rw [if_neg (fun z => e (by rw [z]; decide)), if_neg e, Int32.add_zero]
theorem q_ackBits (hR : Rep v 1 σ 0) (hV : INV σ B) (hB : B ≤ 50000) : zAckBits v = mAckBits σ := by
  obtain ⟨T, P, hN, -⟩ := hV
  obtain ⟨a, w, k1, k2, k3, k4⟩ := hN.2.2.1
  unfold zAckBits mAckBits
  rw [hR.1.2.2.2.2.2.2.2.2.2.1, hR.1.2.2.2.2.2.2.2.2.2.2, k1]
  by_cases h0 : a = 0
  · subst h0
    rw [if_neg (by decide), if_pos (by decide)]
  · rw [if_pos ((na_lt kn_0 rfl (by omega) (by omega)).mpr (by omega)), if_neg (fun z => h0 ((na_eq rfl kn_0 (by omega) (by omega)).mp z))]
theorem q_unoBits (hR : Rep v 1 σ 0) (hV : INV σ B) : zUnoBits v = mUnoBits σ := by
  obtain ⟨T, P, hN, -⟩ := hV
  obtain ⟨o, o1, o2⟩ := hN.2.2.2.2.1
  have hT3 := hN.1.1
  have h7 : v (1 + 37) 7 = mAll σ := by rw [← hR.2.1, Int32.add_zero]
  unfold zUnoBits mUnoBits
  rw [h7, hR.1.2.2.2.2.2.2.2.2.1, o2]
  by_cases h0 : o = 0
  · subst h0
    rw [if_neg (by decide), if_pos (by decide)]
  · rw [if_pos ((na_lt kn_0 rfl (by omega) (by omega)).mpr (by omega)), if_neg (fun z => h0 ((na_eq rfl kn_0 (by omega) (by omega)).mp z))]
end ZQ2
