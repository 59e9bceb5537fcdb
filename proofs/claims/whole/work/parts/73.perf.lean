/-! ===== class and reference: performing texts ===== -/
theorem many_form (x : Int32) : (mForm x = 0 ∧ scMany x = 0) ∨ (mForm x = 1 ∧ scMany x = nI (mCnt x) ∧ 1 ≤ mCnt x ∧ mCnt x ≤ 3) := by
  unfold mForm scMany mCnt
  by_cases h1 : x = 97
  · subst h1; right; decide +kernel
  · rw [if_neg h1, if_neg h1, if_neg h1]
    by_cases h2 : x = 107
    · subst h2; right; decide +kernel
    · rw [if_neg h2, if_neg h2]
      by_cases h3 : x = 114
      · subst h3; right; decide +kernel
      · rw [if_neg h3]
        by_cases h4 : x = 111
        · subst h4; right; decide +kernel
        · rw [if_neg h4, if_neg h4, if_neg h4, if_neg h3]
          by_cases h5 : x = 116
          · subst h5; right; decide +kernel
          · rw [if_neg h5]
            exact Or.inl ⟨rfl, rfl⟩
theorem scCmd_k {v : mV} {k a : Nat} : (scCmd v k a).2 k = upd (v k) 3 (scSign v k (nI a)) := by
  unfold scCmd
  split
  · exact u2_r
  · rw [scCmdLp_o (by omega), u2_r]
theorem scRun1_k {v : mV} {k h a : Nat} (hd : k + 3 ≤ h ∨ h + 46 ≤ k) : (scRun1 v k h a).2 k = upd (v k) 3 (scSign v k (nI a)) := by
  unfold scRun1
  split
  · exact scCmd_k
  · show (scObey (scCmd v k a).2 k h).2 k = _
    rw [scObey_out (by omega)]
    exact scCmd_k
theorem mEnd_q {N : Nat} {x : Int32} {r i a : Nat} {w : mV} (h7 : w 0 7 = nI a) {q : Nat} (h0 : q ≠ 0) (h6 : q ≠ 6) : mEnd N x r i a w q = w q := by
  obtain ⟨a', -, -, -, -, h, -⟩ := mCmLp_ok (N := N) (x := x) r i a w h7
  unfold mEnd
  rw [mMust_o h0, h q h0 h6]
theorem mCmd_end {w : mV} {σ : Nat → Int32} {a N : Nat} : mCmd w σ a N = mCmE (mEnd N (mHere w a N) (mCnt (mHere w a N)) 0 a (u2 (sv w σ) 0 8 (mForm (mHere w a N)))) σ (mHere w a N) := rfl
theorem mCmE_0 {e : mV} {σ : Nat → Int32} {x : Int32} (h : e 0 8 = 0) : mCmE e σ x = (0, e) := by rw [mCmE, if_pos h]
theorem mCmE_1 {e : mV} {σ : Nat → Int32} {x : Int32} (h : e 0 8 = 1) : mCmE e σ x = ((mOp σ x (e 6)).1, sv e (mOp σ x (e 6)).2) := by rw [mCmE, if_neg (by rw [h]; decide)]
/-- the change that a command asks for -/
theorem rep_op {v : mV} {k h B K : Nat} {σ ν : Nat → Int32} {x : Int32} (hR : Rep v h σ 0) (hV : INV σ B) (hx : v k 3 = x) (hf : mForm x = 1) (hK : mCnt x = K) (hn : ∀ j, j < K → v (k + 2) j = ν j) : OKW (scObey v k h) (mOp σ x ν) h (B + 1) := by
  unfold scObey mOp
  rw [hx]
  by_cases h1 : x = 97
  · subst h1
    have : K = 2 := hK.symm.trans (by decide)
    subst this
    rw [if_pos rfl, if_pos rfl, hn 0 (by omega), hn 1 (by omega)]
    exact (ok_alert hR hV _ _).up (by omega)
  · rw [if_neg h1, if_neg h1]
    by_cases h2 : x = 107
    · subst h2
      have : K = 1 := hK.symm.trans (by decide)
      subst this
      rw [if_pos rfl, if_pos rfl, hn 0 (by omega)]
      exact ok_ack hR hV _
    · rw [if_neg h2, if_neg h2]
      by_cases h3 : x = 111
      · subst h3
        have : K = 3 := hK.symm.trans (by decide)
        subst this
        rw [if_pos rfl, if_pos rfl, hn 0 (by omega), hn 1 (by omega), hn 2 (by omega)]
        exact (ok_override hR hV _ _ _).up (by omega)
      · rw [if_neg h3, if_neg h3]
        by_cases h4 : x = 114
        · subst h4
          have : K = 1 := hK.symm.trans (by decide)
          subst this
          rw [if_pos rfl, if_pos rfl, hn 0 (by omega)]
          exact (ok_close hR hV _).up (by omega)
        · rw [if_neg h4, if_neg h4]
          by_cases h5 : x = 116
          · subst h5
            have : K = 1 := hK.symm.trans (by decide)
            subst this
            rw [if_pos rfl, hn 0 (by omega)]
            exact (ok_pass hR hV _).up (by omega)
          · exfalso
            unfold mForm at hf
            rw [if_neg h1, if_neg h2, if_neg h4, if_neg h3, if_neg h5] at hf
            exact absurd hf (by decide)
theorem why_reason (x : Int32) : (scReason x = -1 ∧ mWhy 1 x = 0) ∨ (¬ scReason x = -1 ∧ 0 < mWhy 1 x ∧ scReason x = mWhy 1 x) := by
  unfold scReason mWhy
  rw [if_neg (show ¬ (1 : Int32) = 0 by decide)]
  by_cases h1 : x = -1
  · subst h1; right; decide
  · rw [if_neg h1, if_neg h1]
    by_cases h2 : x < 0
    · rw [if_pos h2, if_pos h2]; right; decide
    · rw [if_neg h2, if_neg h2]; exact Or.inl ⟨rfl, rfl⟩
/-- one command -/
theorem rep_run {v w : mV} {k h a B N : Nat} (hd : k + 3 ≤ h ∨ h + 46 ≤ k) (hT : TX v k (w 5) N) (ha : a < N) (h7 : w 0 7 = nI a) (hR : Rep v h (w 1) 0) (hV : INV (w 1) B) :
    Rep (scRun1 v k h a).2 h (mDoU w a N 1) 0 ∧ INV (mDoU w a N 1) (B + 1) ∧ (((scRun1 v k h a).1 = -1 ∧ mDoU w a N 0 9 = 0 ∧ ∃ a', (scCmd v k a).1 = nI a' ∧ mDoU w a N 0 7 = nI a' ∧ a < a' ∧ a' ≤ a + 13) ∨ (¬ (scRun1 v k h a).1 = -1 ∧ 0 < mDoU w a N 0 9 ∧ (scRun1 v k h a).1 = mDoU w a N 0 9)) := by
  have h80 := hT.1
  have hx : scSign v k (nI a) = mHere w a N := sign_in hT ha
  have hRc : Rep (scCmd v k a).2 h (w 1) 0 := Rep_c hR (fun c hc => scCmd_o (by omega) (by omega)) (fun _ _ => rfl)
  have hbad : (scCmd v k a).1 = -1 → (mCmd w (w 1) a N).2 0 8 = 0 → (mCmd w (w 1) a N).2 1 = w 1 → Rep (scRun1 v k h a).2 h (mDoU w a N 1) 0 ∧ INV (mDoU w a N 1) (B + 1) ∧ (((scRun1 v k h a).1 = -1 ∧ mDoU w a N 0 9 = 0 ∧ ∃ a', (scCmd v k a).1 = nI a' ∧ mDoU w a N 0 7 = nI a' ∧ a < a' ∧ a' ≤ a + 13) ∨ (¬ (scRun1 v k h a).1 = -1 ∧ 0 < mDoU w a N 0 9 ∧ (scRun1 v k h a).1 = mDoU w a N 0 9)) := fun e1 e2 e3 => by
    have hr : scRun1 v k h a = (1, (scCmd v k a).2) := by unfold scRun1; rw [if_pos e1]
    have h9 : mDoU w a N 0 9 = 1 := by unfold mDoU; rw [u2_r, upd_r, e2]; unfold mWhy; rw [if_pos rfl]
    have h1 : mDoU w a N 1 = w 1 := by unfold mDoU; rw [u2_o (by omega), e3]
    rw [hr, h9, h1]
    exact ⟨hRc, hV.B (by omega), Or.inr ⟨show ¬ (1 : Int32) = -1 by decide, show (0 : Int32) < 1 by decide, rfl⟩⟩
  rcases many_form (mHere w a N) with ⟨f0, m0⟩ | ⟨f1, m1, k1, k3⟩
  · have e8 : mEnd N (mHere w a N) (mCnt (mHere w a N)) 0 a (u2 (sv w (w 1)) 0 8 (mForm (mHere w a N))) 0 8 = 0 := mEnd_0 (by rw [u2_r, upd_r]; exact f0)
    refine hbad (by unfold scCmd; rw [hx, m0, if_pos rfl]) (by rw [mCmd_end, mCmE_0 e8]; exact e8) ?_
    rw [mCmd_end, mCmE_0 e8]
    show mEnd _ _ _ _ _ _ 1 = _
    rw [mEnd_q (by rw [u2_r, upd_o (by omega), sv_o (by omega)]; exact h7) (by omega) (by omega), u2_o (by omega), sv_1]
  · obtain ⟨r, hr⟩ : ∃ r, mCnt (mHere w a N) = r + 1 := ⟨mCnt (mHere w a N) - 1, by omega⟩
    have hcmd : scCmd v k a = scCmdLp k (nI (r + 1)) (r + 1) 0 (nI (a + 1)) (u2 v k 3 (mHere w a N)) := by
      unfold scCmd
      rw [hx, m1, hr, nI_clamp (show r + 1 < 2 ^ 31 by omega), nI_1, if_neg (fun z => by rw [show (0 : Int32) = nI 0 from kn_0, na_eq rfl rfl (by omega) (by omega)] at z; omega)]
    have hc := cmd_nums (k := k) (K := r + 1) (N := N) (by omega) (x := mHere w a N) (u := w 5) r 0 a (u2 v k 3 (mHere w a N)) (u2 (sv w (w 1)) 0 8 (mForm (mHere w a N))) (by omega) (by omega) ⟨h80, by rw [u2_r, upd_o (by omega)]; exact hT.2.1, fun j hj => by rw [u2_o (by omega)]; exact hT.2.2 j hj⟩ (by rw [u2_o (by omega), sv_o (by omega)]) (by rw [u2_r, upd_r]; exact f1) (by rw [u2_r, upd_o (by omega), sv_o (by omega)]; exact h7) rfl (fun j hj => absurd hj (by omega))
    rw [← hcmd] at hc
    have hme : mCmd w (w 1) a N = mCmE (mEnd N (mHere w a N) (r + 1) 0 a (u2 (sv w (w 1)) 0 8 (mForm (mHere w a N)))) (w 1) (mHere w a N) := by rw [mCmd_end, hr]
    have he1 : mEnd N (mHere w a N) (r + 1) 0 a (u2 (sv w (w 1)) 0 8 (mForm (mHere w a N))) 1 = w 1 := by
      rw [mEnd_q (by rw [u2_r, upd_o (by omega), sv_o (by omega)]; exact h7) (by omega) (by omega), u2_o (by omega), sv_1]
    generalize mEnd N (mHere w a N) (r + 1) 0 a (u2 (sv w (w 1)) 0 8 (mForm (mHere w a N))) = e at hc hme he1
    rcases hc with ⟨q1, q2⟩ | ⟨q1, a', q2, q3, q4, q5, q6⟩
    · exact hbad q2 (by rw [hme, mCmE_0 q1]; exact q1) (by rw [hme, mCmE_0 q1]; exact he1)
    · have hv3 : (scCmd v k a).2 k 3 = mHere w a N := by rw [scCmd_k, upd_r]; exact hx
      have hop := rep_op (k := k) (ν := e 6) hRc hV hv3 f1 hr q6
      have hne : ¬ (scCmd v k a).1 = -1 := fun z => nI_nneg (j := a') (by omega) (by rw [← q2, z]; decide)
      have hrun : scRun1 v k h a = (scReason (scObey (scCmd v k a).2 k h).1, (scObey (scCmd v k a).2 k h).2) := by unfold scRun1; rw [if_neg hne]
      have hm : mCmd w (w 1) a N = ((mOp (w 1) (mHere w a N) (e 6)).1, sv e (mOp (w 1) (mHere w a N) (e 6)).2) := hme.trans (mCmE_1 q1)
      have hm1 : (mCmd w (w 1) a N).1 = (mOp (w 1) (mHere w a N) (e 6)).1 := congrArg Prod.fst hm
      have hm2 : (mCmd w (w 1) a N).2 = sv e (mOp (w 1) (mHere w a N) (e 6)).2 := congrArg Prod.snd hm
      have hD1 : mDoU w a N 1 = (mOp (w 1) (mHere w a N) (e 6)).2 := by
        rw [mDoU, u2_o (by omega), hm2, sv_1]
      have hD7 : mDoU w a N 0 7 = nI a' := by
        rw [mDoU, u2_r, upd_o (by omega), hm2, sv_o (by omega)]; exact q3
      have hD9 : mDoU w a N 0 9 = mWhy 1 (scObey (scCmd v k a).2 k h).1 := by
        rw [mDoU, u2_r, upd_r, hm1, hm2, sv_o (by omega), q1, hop.1]
      rw [hrun, hD1, hD9, hD7]
      dsimp only
      refine ⟨hop.2.1, hop.2.2, ?_⟩
      rcases why_reason (scObey (scCmd v k a).2 k h).1 with ⟨w1, w2⟩ | w1
      · exact Or.inl ⟨w1, w2, a', q2, rfl, q4, by omega⟩
      · exact Or.inr w1
theorem INV.MG {σ : Nat → Int32} {B : Nat} (h : INV σ B) : MG σ := by
  obtain ⟨T, P, h, -, -⟩ := h
  exact ⟨T, h.1.1, h.1.2.1⟩
theorem rep_perfEnd {k h N r1 r2 a c B : Nat} {v w : mV} (ha : ¬ a < N) (h93 : a ≤ 93) (hcr : c + r1 < 10000) (hT : TX v k (w 5) N) (h7 : w 0 7 = nI a) (hR : Rep v h (w 1) 0) (hV : INV (w 1) B) (h6 : v k 6 = -1) (h4 : v k 4 = nI c) :
    Rep (scPerfLp k h r1 a v) h ((mDoes N r2 c w).2 1) 0 ∧ INV ((mDoes N r2 c w).2 1) (B + r1) ∧ ((scPerfLp k h r1 a v k 6 = -1 ∧ ∃ c', c' < 10000 ∧ scPerfLp k h r1 a v k 4 = nI c' ∧ (mDoes N r2 c w).1 = -1 - nI c') ∨ (¬ scPerfLp k h r1 a v k 6 = -1 ∧ scPerfLp k h r1 a v k 6 = (mDoes N r2 c w).2 0 9 ∧ ∃ a', a' < 10000 ∧ scPerfLp k h r1 a v k 5 = nI a' ∧ (mDoes N r2 c w).1 = nI a')) := by
  have h80 := hT.1
  have hC : scPerfLp k h r1 a v = v := by
    cases r1 with
    | zero => rfl
    | succ r => unfold scPerfLp; rw [hT.2.1, if_neg (by rw [na_lt rfl rfl (by omega) (by omega)]; exact ha)]
  have hDd : mDoes N r2 c w = (-1 - nI c, w) := by
    cases r2 with
    | zero => rfl
    | succ r => unfold mDoes; rw [h7, nI_clamp (show a < 2 ^ 31 by omega), if_neg ha]
  rw [hC, hDd]
  exact ⟨hR, hV.B (by omega), Or.inl ⟨h6, c, by omega, h4, rfl⟩⟩
theorem rep_perfLp {k h N : Nat} (hd : k + 3 ≤ h ∨ h + 46 ≤ k) : ∀ (r1 r2 a c B : Nat) (v w : mV), N ≤ a + r1 → N ≤ a + r2 → a ≤ 93 → c + r1 < 10000 → TX v k (w 5) N → w 0 7 = nI a → Rep v h (w 1) 0 → INV (w 1) B → v k 6 = -1 → v k 4 = nI c →
    Rep (scPerfLp k h r1 a v) h ((mDoes N r2 c w).2 1) 0 ∧ INV ((mDoes N r2 c w).2 1) (B + r1) ∧ ((scPerfLp k h r1 a v k 6 = -1 ∧ ∃ c', c' < 10000 ∧ scPerfLp k h r1 a v k 4 = nI c' ∧ (mDoes N r2 c w).1 = -1 - nI c') ∨ (¬ scPerfLp k h r1 a v k 6 = -1 ∧ scPerfLp k h r1 a v k 6 = (mDoes N r2 c w).2 0 9 ∧ ∃ a', a' < 10000 ∧ scPerfLp k h r1 a v k 5 = nI a' ∧ (mDoes N r2 c w).1 = nI a')) := by
  intro r1
  induction r1 with
  | zero =>
    intro r2 a c B v w h1 h2 h93 hcr hT h7 hR hV h6 h4
    exact rep_perfEnd (by omega) h93 hcr hT h7 hR hV h6 h4
  | succ r1 ih =>
    intro r2 a c B v w h1 h2 h93 hcr hT h7 hR hV h6 h4
    have h80 := hT.1
    by_cases ha : a < N
    · skip
      obtain ⟨r2, rfl⟩ : ∃ q, r2 = q + 1 := ⟨r2 - 1, by omega⟩
      obtain ⟨g1, g2, g3⟩ := rep_run hd hT ha h7 hR hV
      obtain ⟨b', y1, y2, y3, y4, y5, y6⟩ := mDoU_ok (N := N) h7 hV.MG
      have hk := scRun1_k (v := v) (a := a) hd
      have hk1 : (scRun1 v k h a).2 (k + 1) = v (k + 1) := by
        unfold scRun1
        split
        · exact scCmd_o (by omega) (by omega)
        · show (scObey (scCmd v k a).2 k h).2 (k + 1) = _
          rw [scObey_out (by omega), scCmd_o (by omega) (by omega)]
      have hlt : nI a < v k 2 := by rw [hT.2.1]; exact (na_lt rfl rfl (by omega) (by omega)).mpr ha
      have hcl : (w 0 7).toNatClampNeg = a := by rw [h7]; exact nI_clamp (by omega)
      have hw5 : mDoU w a N 5 = w 5 := y4 5 (by omega) (by omega) (by omega)
      unfold scPerfLp mDoes
      rw [if_pos hlt, hcl, if_pos ha]
      have hRr : ∀ (f : Nat) (z : Int32) (u : mV), Rep u h (mDoU w a N 1) 0 → Rep (u2 u k f z) h (mDoU w a N 1) 0 := fun f z u hu => Rep_c hu (fun c hc => u2_o (by omega)) (fun _ _ => rfl)
      rcases g3 with ⟨p1, p2, a', p3, p4, p5, p6⟩ | ⟨p1, p2, p3⟩
      · rw [if_pos p1, if_neg (by rw [p2]; decide), p3, nI_clamp (show a' < 2 ^ 31 by omega)]
        have hk2 : scRun2 v k h a k 2 = nI N := by unfold scRun2; rw [u2_r, upd_o (by omega), hk, upd_o (by omega)]; exact hT.2.1
        have hk4 : scRun2 v k h a k 4 = nI c := by unfold scRun2; rw [u2_r, upd_o (by omega), hk, upd_o (by omega)]; exact h4
        have hk6 : scRun2 v k h a k 6 = -1 := by unfold scRun2; rw [u2_r, upd_r]; exact p1
        obtain ⟨z1, z2, z3⟩ := ih r2 a' (c + 1) (B + 1) (u2 (scRun2 v k h a) k 4 (scRun2 v k h a k 4 + 1)) (mDoU w a N) (by omega) (by omega) (by omega) (by omega) ⟨h80, by rw [u2_r, upd_o (by omega)]; exact hk2, fun j hj => by rw [u2_o (by omega), hw5]; unfold scRun2; rw [u2_o (by omega), hk1]; exact hT.2.2 j hj⟩ p4 (hRr _ _ _ (hRr _ _ _ g1)) g2 (by rw [u2_r, upd_o (by omega)]; exact hk6) (by rw [u2_r, upd_r, hk4, nI_1])
        exact ⟨z1, z2.B (by omega), z3⟩
      · rw [if_neg p1, if_pos p2]
        dsimp only
        refine ⟨hRr _ _ _ (hRr _ _ _ g1), g2.B (by omega), Or.inr ⟨?_, ?_, a, by omega, ?_, h7⟩⟩
        · rw [u2_r, upd_o (by omega)]; unfold scRun2; rw [u2_r, upd_r]; exact p1
        · rw [u2_r, upd_o (by omega)]; unfold scRun2; rw [u2_r, upd_r]; exact p3
        · rw [u2_r, upd_r]
    · exact rep_perfEnd ha h93 hcr hT h7 hR hV h6 h4
theorem rep_perf {k h N B : Nat} (hd : k + 3 ≤ h ∨ h + 46 ≤ k) {v w : mV} (hT : TX v k (w 5) N) (hR : Rep v h (w 1) 0) (hV : INV (w 1) B) :
    Rep (scPerf v k h) h ((mDo w N).2 1) 0 ∧ INV ((mDo w N).2 1) (B + 80) ∧ ((scPerf v k h k 6 = -1 ∧ ∃ c', c' < 10000 ∧ scPerf v k h k 4 = nI c' ∧ (mDo w N).1 = -1 - nI c') ∨ (¬ scPerf v k h k 6 = -1 ∧ scPerf v k h k 6 = (mDo w N).2 0 9 ∧ ∃ a', a' < 10000 ∧ scPerf v k h k 5 = nI a' ∧ (mDo w N).1 = nI a')) := by
  have h80 := hT.1
  unfold scPerf mDo
  exact rep_perfLp hd 80 N 0 0 B _ (u2 w 0 7 0) (by omega) (by omega) (by omega) (by omega) ⟨h80, by rw [u2_r, upd_o (by omega), u2_r, upd_o (by omega)]; exact hT.2.1, fun j hj => by rw [u2_o (by omega), u2_o (by omega), u2_o (by omega)]; exact hT.2.2 j hj⟩ (by rw [u2_r, upd_r]; exact kn_0) (by rw [u2_o (by omega)]; exact Rep_c hR (fun c hc => by rw [u2_o (by omega), u2_o (by omega)]) (fun _ _ => rfl)) (by rw [u2_o (by omega)]; exact hV) (by rw [u2_r, upd_r]) (by rw [u2_r, upd_o (by omega), u2_r, upd_r]; exact kn_0)
