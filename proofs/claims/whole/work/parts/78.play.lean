/-! ===== class and reference: fault, play ===== -/
/-- what a performance comes to, on both sides -/
theorem q_done {v w : mV} {N st B : Nat} (hZ : ZR v w N st B) :
    let D := mDo (sv (mBegin w (w 1)) (w 1)) N
    Rep (zDone v) 47 (D.2 1) 0 ∧ INV (D.2 1) (B + 80) ∧ ((zDone v 325 6 = -1 ∧ ∃ c', c' < 10000 ∧ zDone v 325 4 = nI c' ∧ D.1 = -1 - nI c') ∨ (¬ zDone v 325 6 = -1 ∧ zDone v 325 6 = D.2 0 9 ∧ ∃ a', a' < 10000 ∧ zDone v 325 5 = nI a' ∧ D.1 = nI a')) ∧
    ZR (zDone v) (sv D.2 (w 1)) N st B ∧ (∀ q, q ≠ 0 → q ≠ 1 → q ≠ 6 → D.2 q = mBegin w (w 1) q) ∧ D.2 0 4 = w 0 4 ∧ D.2 0 6 = w 0 6 ∧ hB (zDone v) 47 := by
  intro D
  have hZ0 := hZ
  obtain ⟨⟨hR, hV, hC⟩, ⟨hT, h6⟩, ⟨e1, e4, s4⟩, hin, hst⟩ := hZ0
  have m5 : sv (mBegin w (w 1)) (w 1) 5 = w 5 := by rw [sv_o (by omega), mBegin, cpR_o (by omega)]
  have m0 : sv (mBegin w (w 1)) (w 1) 0 = w 0 := by rw [sv_o (by omega), mBegin, cpR_o (by omega)]
  have hT' : TX (cpB v 47 1 0 46) 325 (sv (mBegin w (w 1)) (w 1) 5) N := by
    rw [m5]
    exact ⟨hT.1, by rw [cpB_out (by omega)]; exact hT.2.1, fun j hj => by rw [cpB_out (by omega)]; exact hT.2.2 j hj⟩
  have hR' : Rep (cpB v 47 1 0 46) 47 (sv (mBegin w (w 1)) (w 1) 1) 0 := Rep_c hR (fun c hc => cpB_in (by omega) (by omega)) (fun _ _ => rfl)
  have hV' : INV (sv (mBegin w (w 1)) (w 1) 1) B := hV
  obtain ⟨g1, g2, g3⟩ := rep_perf (k := 325) (h := 47) (by omega) hT' hR' hV'
  obtain ⟨o1, o2, -⟩ := mDo_ok (v := sv (mBegin w (w 1)) (w 1)) hT.1 hV.MG
  have hD : D = mDo (sv (mBegin w (w 1)) (w 1)) N := rfl
  have hq : ∀ q, q ≠ 0 → q ≠ 1 → q ≠ 6 → D.2 q = mBegin w (w 1) q := fun q h0 h1 h6 => by rw [hD, o1 q h0 h1 h6, sv_o h1]
  have h04 : D.2 0 4 = w 0 4 := by rw [hD, o2 4 (by omega), m0]
  have h06 : D.2 0 6 = w 0 6 := by rw [hD, o2 6 (by omega), m0]
  have hb47 : hB (zDone v) 47 := scPerf_B (by omega) (fun i hi => by rw [cpB_in (by omega) (by omega)]; exact hC.2.2.1 i hi)
  have hout : ∀ q, (q < 47 ∨ (93 ≤ q ∧ q < 325)) → zDone v q = v q := fun q hq => by unfold zDone; rw [scPerf_out (by omega) (by omega), cpB_out (by omega)]
  have h326 : zDone v 326 = v 326 := by
    have hk1 : ∀ r a (u : mV), scPerfLp 325 47 r a u 326 = u 326 := by
      intro r
      induction r with
      | zero => intro a u; rfl
      | succ r ih =>
        intro a u
        have hr : (scRun1 u 325 47 a).2 326 = u 326 := by
          unfold scRun1
          split
          · exact scCmd_o (by omega) (by omega)
          · show (scObey (scCmd u 325 a).2 325 47).2 326 = _
            rw [scObey_out (by omega), scCmd_o (by omega) (by omega)]
        unfold scPerfLp
        split
        · split
          · rw [ih, u2_o (by omega), scRun2, u2_o (by omega), hr]
          · rw [u2_o (by omega), scRun2, u2_o (by omega), hr]
        · rfl
    unfold zDone scPerf
    rw [hk1, u2_o (by omega), u2_o (by omega), cpB_out (by omega)]
  have h3252 : zDone v 325 2 = v 325 2 := by
    have hk1 : ∀ r a (u : mV), scPerfLp 325 47 r a u 325 2 = u 325 2 := by
      intro r
      induction r with
      | zero => intro a u; rfl
      | succ r ih =>
        intro a u
        have hr : (scRun1 u 325 47 a).2 325 2 = u 325 2 := by rw [scRun1_k (by omega), upd_o (by omega)]
        unfold scPerfLp
        split
        · split
          · rw [ih, u2_r, upd_o (by omega), scRun2, u2_r, upd_o (by omega), hr]
          · rw [u2_r, upd_o (by omega), scRun2, u2_r, upd_o (by omega), hr]
        · rfl
    unfold zDone scPerf
    rw [hk1, u2_r, upd_o (by omega), u2_r, upd_o (by omega), cpB_out (by omega)]
  refine ⟨g1, g2, g3, ZR_c hZ hout h3252 h326 (fun q _ => by rw [sv_1]) (by rw [sv_o (by omega)]; exact h04) (by rw [sv_o (by omega)]; exact h06) (by rw [sv_o (by omega), hq 4 (by omega) (by omega) (by omega), mBegin, cpR_o (by omega)]) (by rw [sv_o (by omega), hq 5 (by omega) (by omega) (by omega), mBegin, cpR_o (by omega)]), hq, h04, h06, hb47⟩
theorem ZR_back {v w : mV} {N st B : Nat} {D : mV} {σ : Nat → Int32} (hZ : ZR v (sv D σ) N st B) (hD : ∀ q, q < 229 → D 2 q = σ q) : ZR v (mBack D) N st B := by
  refine ZR_c hZ (fun _ _ => rfl) rfl rfl (fun q hq => ?_) ?_ ?_ ?_ ?_
  · unfold mBack; rw [sv_1, sv_1]; unfold mRet; rw [if_pos hq]; exact hD q hq
  · unfold mBack; rw [sv_o (by omega), sv_o (by omega)]
  · unfold mBack; rw [sv_o (by omega), sv_o (by omega)]
  · unfold mBack; rw [sv_o (by omega), sv_o (by omega)]
  · unfold mBack; rw [sv_o (by omega), sv_o (by omega)]
theorem beg_row {w : mV} {D : mV} (hq : ∀ q, q ≠ 0 → q ≠ 1 → q ≠ 6 → D q = mBegin w (w 1) q) : ∀ q, q < 229 → D 2 q = w 1 q := fun q hlt => by
  rw [hq 2 (by omega) (by omega) (by omega), mBegin, cpR_r, mBeg_at hlt]
theorem neg_of (c : Nat) (hc : c < 10000) : (-1 : Int32) - nI c < 0 ∧ -1 - (-1 - nI c) = nI c := by
  have e2 : (-1 : Int32) - (-1 - nI c) = nI c := by
    rw [Int32.sub_eq_add_neg, Int32.neg_sub, Int32.sub_eq_add_neg, Int32.add_comm (nI c), ← Int32.add_assoc, ← Int32.sub_eq_add_neg, Int32.sub_self, Int32.zero_add]
  refine ⟨?_, e2⟩
  rw [Int32.lt_iff_toInt_lt]
  have h1 : ((-1 : Int32) - nI c).toInt = -1 - (c : Int) := by
    rw [Int32.toInt_sub, nI_toInt (by omega), show (-1 : Int32).toInt = -1 by decide]
    show Int.bmod (-1 - (c : Int)) 4294967296 = _
    exact Int.bmod_eq_of_le (by omega) (by omega)
  rw [h1, show (0 : Int32).toInt = 0 by decide]
  omega
theorem q_fault {v w : mV} {N st B : Nat} (hZ : ZR v w N st B) (x : Int32) : (zFault v x).1 = (mFault w (w 1) N x).1 ∧ ZR (zFault v x).2 (mFault w (w 1) N x).2 N st B := by
  have hq := q_done hZ
  generalize hD : mDo (sv (mBegin w (w 1)) (w 1)) N = D at hq
  obtain ⟨g1, g2, g3, g4, g5, g6, g7, g8⟩ := hq
  unfold zFault mFault
  rw [hD]
  by_cases h1 : x < 0
  · rw [if_pos h1, if_pos (by unfold mIn; rw [if_pos h1])]; exact ⟨rfl, by rw [sv_id]; exact hZ⟩
  · rw [if_neg h1]
    by_cases h2 : 1 < x
    · rw [if_pos h2, if_pos (by unfold mIn; rw [if_neg h1, if_pos h2])]; exact ⟨rfl, by rw [sv_id]; exact hZ⟩
    · rw [if_neg h2, if_neg (show ¬ mIn x 0 1 = 0 by unfold mIn; rw [if_neg h1, if_neg h2]; decide)]
      dsimp only
      refine ⟨?_, ZR_back (w := w) g4 (beg_row g5)⟩
      rcases g3 with ⟨p1, c', pc, p2, p3⟩ | ⟨p1, p2, a', pa, p3, p4⟩
      · rw [if_pos p1, if_pos (by rw [p3]; exact (neg_of c' pc).1)]
      · rw [if_neg p1, if_neg (show ¬ D.1 < 0 by rw [p4]; exact nI_nneg (by omega)), p2, p3, p4]
theorem q_play {v w : mV} {N st B : Nat} (hZ : ZR v w N st B) : (zPlay v).1 = (mPlay w (w 1) N st).1 ∧ ∃ st', ZR (zPlay v).2 (mPlay w (w 1) N st).2 N st' (B + 80) := by
  have hst4 := hZ.2.2.1
  have hq := q_done hZ
  generalize hD : mDo (sv (mBegin w (w 1)) (w 1)) N = D at hq
  obtain ⟨g1, g2, g3, g4, g5, g6, g7, g8⟩ := hq
  unfold zPlay mPlay
  rw [hD]
  rcases g3 with ⟨p1, c', pc, p2, p3⟩ | ⟨p1, p2, a', pa, p3, p4⟩
  · obtain ⟨n1, n2⟩ := neg_of c' pc
    rw [if_pos p1, if_pos (by rw [p3]; exact n1), p3, n2, if_neg (nI_nneg (by omega))]
    have hg4 := g4
    obtain ⟨⟨hR4, hV4, hC4⟩, -, ⟨e1, e4, s4⟩, -⟩ := hg4
    have lo : ∀ q, q < 95 ∨ 325 ≤ q → zPrep (zDone v) q = zDone v q := fun q hq => zPrep_lo e1 s4 hq hC4.2.1
    have hk : OKW (nI c', cpB (zPrep (zDone v)) 1 47 0 46) (nI c', D.2 1) 1 (B + 80) := ⟨rfl, Rep_c g1 (fun c hc => by show cpB (zPrep (zDone v)) 1 47 0 46 (1 + c) = _; rw [cpB_in (by omega) (by omega), lo _ (by omega)]) (fun _ _ => rfl), g2⟩
    have hs := zr_set g4 hk (by omega) (fun q hq => by show cpB _ _ _ _ _ q = _; rw [cpB_out (by omega)]) (hB_of (v := fun q => zDone v (q + 46)) (fun i hi => by
      have := g8 i hi
      rw [show 47 + (38 + i) = 1 + (38 + i) + 46 by omega] at this
      exact this) (fun i hi => by
      show cpB (zPrep (zDone v)) 1 47 0 46 (1 + (38 + i)) = zDone v (1 + (38 + i) + 46)
      rw [cpB_in (by omega) (by omega), lo _ (by omega), show 1 + (38 + i) + 46 = 47 + (38 + i) by omega]))
    have e325 : cpB (zPrep (zDone v)) 1 47 0 46 325 4 = nI c' := by rw [cpB_out (by omega), lo 325 (by omega)]; exact p2
    rw [e325]
    have hmem : sv (mBegin (sv D.2 (w 1)) (sv D.2 (w 1) 1)) (D.2 1) = D.2 := by
      funext q
      by_cases h1 : q = 1
      · subst h1; rfl
      · rw [sv_o h1]
        by_cases h2 : q = 2
        · subst h2
          rw [mBegin, cpR_r]
          funext j
          by_cases hj : j < 229
          · rw [mBeg_at hj, sv_1, beg_row g5 j hj]
          · unfold mBeg; rw [if_neg hj, sv_o (by omega)]
        · rw [mBegin, cpR_o h2, sv_o h1]
    have hdone : mDone (sv D.2 (w 1)) (sv D.2 (w 1) 1) st (nI c', D.2 1) = (nI c', mAct D.2 st) := by
      unfold mDone
      rw [if_neg (show ¬ (nI c', D.2 1).1 < 0 from nI_nneg (by omega))]
      dsimp only
      rw [hmem]
    rw [hdone] at hs
    exact hs
  · rw [if_neg p1, if_neg (show ¬ D.1 < 0 by rw [p4]; exact nI_nneg (by omega))]
    dsimp only
    obtain ⟨h1, h2, h3, h4⟩ := ZR_back (w := w) g4 (beg_row g5)
    have hz := ZR_back (w := w) g4 (beg_row g5)
    exact ⟨rfl, st, ⟨hz.1.1, hz.1.2.1.B (by omega), hz.1.2.2⟩, hz.2.1, hz.2.2.1, hz.2.2.2.1, fun j hj => ⟨(hz.2.2.2.2 j hj).1, (hz.2.2.2.2 j hj).2.B (by omega)⟩⟩
