/-! ===== the reference: what its changes keep ===== -/
theorem MT_free {s : Nat → Int32} {T B j : Nat} {x : Int32} (h : MT s T B) (h1 : j ≠ 0 ∧ j ≠ 1 ∧ j ≠ 2 ∧ j ≠ 15) (h2 : j < 56 ∨ (101 ≤ j ∧ (j - 101) % 16 ≠ 3 ∧ (j - 101) % 16 ≠ 4)) : MT (upd s j x) T B :=
  ⟨MI_free h.1 h1 h2, by rw [upd_o (by omega)]; exact h.2.1, fun i hi => by rw [upd_o (by omega)]; exact h.2.2 i hi⟩
theorem MT_page {s : Nat → Int32} {T B i : Nat} (h : MT s T B) (hi : i < 8) : MT (mPage s i) T B :=
  ⟨mPage_MI h.1 hi, by rw [mPage_t h.1 hi (by omega) (by omega)]; exact h.2.1, fun k hk => by rw [mPage_lvl h.1 hi]; exact h.2.2 k hk⟩
theorem MT_new {s : Nat → Int32} {T B j : Nat} {x y : Int32} (h : MT s T B) : MT (mNew s j x y) T B := by
  refine ⟨MI_new h.1, ?_, fun i hi => ?_⟩
  · unfold mNew
    simp (disch := omega) only [upd_o]
    rw [mZeroLp_o 16 0 s (by omega)]; exact h.2.1
  · unfold mNew
    simp (disch := omega) only [upd_o]
    by_cases hj : i = j
    · subst hj
      rw [mZeroLp_i 16 0 s (by omega) (by omega)]
      exact ⟨0, by omega, kn_0⟩
    · rw [mZeroLp_o 16 0 s (by omega)]; exact h.2.2 i hi
theorem MT_fold {s : Nat → Int32} {T B j : Nat} {y : Int32} (h : MT s T B) : MT (mFold s j y) T B :=
  MT_free (MT_free (MT_free (MT_free (MT_free h (by omega) (by omega)) (by omega) (by omega)) (by omega) (by omega)) (by omega) (by omega)) (by omega) (by omega)
theorem MT_opens {s : Nat → Int32} {T B : Nat} {x y : Int32} (h : MT s T B) : MT (mOpens s x y).2 T B := by
  by_cases h0 : mFreeLp s 8 (-1) < 0
  · rw [mOpens, if_pos h0]; exact h
  · obtain ⟨j, hj, ej⟩ := (mFreeLp_or s 8 (-1) (by omega) (Or.inl rfl)).resolve_left (fun z => h0 (by rw [z]; decide))
    have e : (mOpens s x y).2 = mPage (mNew s j x y) j := by rw [mOpens, if_neg h0, ej, nI_clamp (show j < 2 ^ 31 by omega)]
    rw [e]
    exact MT_page (MT_new h) hj
theorem MT_alerts {s : Nat → Int32} {T B : Nat} {x y : Int32} (h : MT s T B) : MT (mAlerts s x y).2 T B := by
  by_cases h1 : mIn x 0 19 = 0
  · rw [mAlerts, if_pos h1]; exact h
  · by_cases h2 : mIn y 0 2 = 0
    · rw [mAlerts, if_neg h1, if_pos h2]; exact h
    · by_cases h0 : mFolLp s x 8 0 < 0
      · rw [mAlerts, if_neg h1, if_neg h2, if_pos h0]; exact MT_opens h
      · obtain ⟨j, hj, ej⟩ := (mFolLp_or s x 8 0 rfl).resolve_left (fun z => h0 (by rw [z]; decide))
        have e : (mAlerts s x y).2 = if s (101 + 16 * j + 2) < y then (if s (101 + 16 * j + 4) = 0 then mPage (mFold s j y) j else mFold s j y) else mFold s j y := by rw [mAlerts, if_neg h1, if_neg h2, if_neg h0, ej, nI_clamp (show j < 2 ^ 31 by omega)]
        rw [e]
        split
        · split
          · exact MT_page (MT_fold h) hj
          · exact MT_fold h
        · exact MT_fold h
theorem MT_acks {s : Nat → Int32} {T B : Nat} {x : Int32} (h : MT s T B) : MT (mAcks s x).2 T B := by
  unfold mAcks
  split
  · exact h
  · rename_i h0
    obtain ⟨j, hj, rfl⟩ := mInc_of h0
    rw [nI_clamp (show j < 2 ^ 31 by omega)]
    split
    · exact h
    · split
      · exact h
      · exact MT_free (MT_free (MT_free h (by omega) (by omega)) (by omega) (by omega)) (by omega) (by omega)
theorem MT_res3 {s τ : Nat → Int32} {T B j : Nat} (h : MT τ T B) : MT (mRes3 s j τ) T B := MT_free (MT_free (MT_free h (by omega) (by omega)) (by omega) (by omega)) (by omega) (by omega)
theorem MT_resolves {s : Nat → Int32} {T B : Nat} {x : Int32} (h : MT s T B) : MT (mResolves s x).2 T B := by
  unfold mResolves
  split
  · exact h
  · rename_i h0
    obtain ⟨j, hj, rfl⟩ := mInc_of h0
    rw [nI_clamp (show j < 2 ^ 31 by omega)]
    show MT (ite _ _ _) T B
    split
    · rename_i h1
      obtain ⟨w, hw, ew⟩ := h.1.2.2.2.2.2.2.2 j hj
      rw [ew] at h1 ⊢
      have hw0 : 0 < w := (na_lt kn_0 rfl (by omega) (by omega)).mp h1
      rw [show nI w - 1 = nI (w - 1) by rw [show w = w - 1 + 1 by omega, nI_pred, Nat.add_sub_cancel], nI_clamp (show w - 1 < 2 ^ 31 by omega)]
      exact MT_res3 (MT_free h (by omega) (by omega))
    · exact MT_res3 h
theorem MT_pass {s : Nat → Int32} {T : Nat} {x : Int32} (h : MT s T T) (hT : T ≤ 30000) : ∃ U, U ≤ 30000 ∧ MT (mPass s x).2 U U := by
  unfold mPass
  split
  · exact ⟨T, hT, h⟩
  · rename_i h0
    split
    · exact ⟨T, hT, h⟩
    · rename_i h1
      obtain ⟨M, hM, rfl⟩ := mIn_600 h0
      rw [nI_clamp (show M < 2 ^ 31 by omega)]
      rw [h.2.1, nI_add, na_lt kn_30000 rfl (by omega) (by omega)] at h1
      refine ⟨T + M, by omega, ?_⟩
      have hg : ∀ (r U : Nat) (τ : Nat → Int32), MT τ U U → U + r ≤ 30000 → MT (mMins r τ) (U + r) (U + r) := by
        intro r
        induction r with
        | zero => intro U τ hu _; exact hu
        | succ r ih =>
          intro U τ hu hr
          have := ih (U + 1) (mMinute τ) (mMinute_MT hu (by omega) (by omega)) (by omega)
          rw [show U + (r + 1) = U + 1 + r by omega]
          exact this
      exact hg M T s h (by omega)
theorem MI_std {s : Nat → Int32} {k d : Nat} {x : Int32} (hI : MI s) (hk : k < 6) (hd : d < 3) (hx : d = 1 → ∃ p, p < 8 ∧ x = nI p) : MI (upd s (83 + 3 * k + d) x) := by
  obtain ⟨⟨P, p1, p2⟩, ⟨R, r1, r2, r3⟩, ⟨T, t1, t2, t3⟩, ⟨O, o1, o2⟩, a, b, c, e⟩ := hI
  refine ⟨⟨P, p1, by rw [upd_o (by omega)]; exact p2⟩, ⟨R, r1, by rw [upd_o (by omega)]; exact r2, fun k hk => ?_⟩, ⟨T, t1, by rw [upd_o (by omega)]; exact t2, fun i hi => ?_⟩, ⟨O, o1, by rw [upd_o (by omega)]; exact o2⟩, fun k hk => ?_, fun k j2 hk hj => ?_, fun k1 hk1 => ?_, fun i hi => ?_⟩
  · rw [upd_o (by omega)]; exact r3 k hk
  · rw [upd_o (by omega)]; exact t3 i hi
  · rw [upd_o (by omega)]; exact a k hk
  · rw [upd_o (by omega)]; exact b k j2 hk hj
  · by_cases h : 83 + 3 * k1 + 1 = 83 + 3 * k + d
    · rw [h, upd_r]; exact hx (by omega)
    · rw [upd_o h]; exact c k1 hk1
  · rw [upd_o (by omega)]; exact e i hi
theorem MI_15 {s : Nat → Int32} {O : Nat} (hI : MI s) (hO : O ≤ 6) : MI (upd s 15 (nI O)) := by
  obtain ⟨⟨P, p1, p2⟩, ⟨R, r1, r2, r3⟩, ⟨T, t1, t2, t3⟩, -, a, b, c, e⟩ := hI
  refine ⟨⟨P, p1, by rw [upd_o (by omega)]; exact p2⟩, ⟨R, r1, by rw [upd_o (by omega)]; exact r2, fun k hk => ?_⟩, ⟨T, t1, by rw [upd_o (by omega)]; exact t2, fun i hi => ?_⟩, ⟨O, hO, upd_r⟩, fun k hk => ?_, fun k j2 hk hj => ?_, fun k1 hk1 => ?_, fun i hi => ?_⟩
  · rw [upd_o (by omega)]; exact r3 k hk
  · rw [upd_o (by omega)]; exact t3 i hi
  · rw [upd_o (by omega)]; exact a k hk
  · rw [upd_o (by omega)]; exact b k j2 hk hj
  · rw [upd_o (by omega)]; exact c k1 hk1
  · rw [upd_o (by omega)]; exact e i hi
theorem MI_cp {n k : Nat} (hn : n ≤ k) (hk : k < 6) {s : Nat → Int32} (hI : MI s) : MI (mCpLp n k 3 0 s) := by
  simp only [mCpLp]
  refine MI_std (k := n) (d := 0 + 1 + 1) (MI_std (k := n) (d := 0 + 1) (MI_std (k := n) (d := 0) hI (by omega) (by omega) (by omega)) (by omega) (by omega) (fun _ => ?_)) (by omega) (by omega) (by omega)
  rw [upd_o (by omega)]
  exact hI.2.2.2.2.2.2.1 k hk
theorem MI_clr : ∀ (r k n : Nat) (s : Nat → Int32), n ≤ k → k + r ≤ 6 → MI s → MI (mClrLp r k n s).2
  | 0, _, _, _, _, _, h => h
  | r + 1, k, n, s, hn, hk, h => by
    unfold mClrLp
    split
    · exact MI_clr r (k + 1) (n + 1) _ (by omega) (by omega) (MI_cp hn (by omega) h)
    · exact MI_clr r (k + 1) n s (by omega) (by omega) h
theorem MI_clears {s : Nat → Int32} (hI : MI s) : MI (mClears s) := by
  obtain ⟨O, hO, eO⟩ := hI.2.2.2.1
  have h6 := (mForce_n hI).2
  unfold mClears
  rw [eO, nI_clamp (show O < 2 ^ 31 by omega)] at h6 ⊢
  exact MI_15 (MI_clr O 0 0 s (Nat.le_refl 0) (by omega) hI) h6
theorem mClears_o {s : Nat → Int32} {q : Nat} (hI : MI s) (hq : q < 15 ∨ (15 < q ∧ q < 83) ∨ 101 ≤ q) : mClears s q = s q := by
  obtain ⟨O, hO, eO⟩ := hI.2.2.2.1
  unfold mClears
  rw [upd_o (by omega), eO, nI_clamp (show O < 2 ^ 31 by omega), mClrLp_o O 0 0 s (Nat.le_refl 0) (by omega) (by omega)]
theorem MT_overrides {s : Nat → Int32} {T B : Nat} {x y z : Int32} (h : MT s T B) : MT (mOverrides s x y z).2 T B := by
  unfold mOverrides
  split
  · exact h
  · split
    · exact h
    · rename_i hy
      split
      · exact h
      · split
        · exact h
        · rename_i h6
          obtain ⟨p, hp, rfl⟩ := mIn_P h.1 hy
          obtain ⟨hF, hF6⟩ := mForce_n h.1
          have e15 := mClears_15 (σ := s)
          have hc := MI_clears h.1
          have h2 : mClears s 2 = s 2 := mClears_o h.1 (by omega)
          have hl : ∀ i, i < 8 → mClears s (101 + 16 * i + 3) = s (101 + 16 * i + 3) := fun i hi => mClears_o h.1 (by omega)
          generalize (mClrLp (s 15).toNatClampNeg 0 0 s).1 = N at hF hF6 e15
          have hN5 : N < 6 := by
            by_cases hz : N < 6
            · exact hz
            · exact absurd (by rw [hF, show N = 6 by omega]; exact kn_6.symm) h6
          rw [e15, nI_clamp (show N < 2 ^ 31 by omega)]
          show MT (mOvr4 (mClears s) N x (nI p) z) T B
          unfold mOvr4
          rw [e15, nI_1]
          refine ⟨MI_15 (MI_std (k := N) (d := 2) (MI_std (k := N) (d := 1) (MI_std (k := N) (d := 0) hc hN5 (by omega) (by omega)) hN5 (by omega) (fun _ => ⟨p, hp, rfl⟩)) hN5 (by omega) (by omega)) (by omega), ?_, fun i hi => ?_⟩
          · simp (disch := omega) only [upd_o]; rw [h2]; exact h.2.1
          · simp (disch := omega) only [upd_o]; rw [hl i hi]; exact h.2.2 i hi
theorem MT_op {s ν : Nat → Int32} {T : Nat} {x : Int32} (h : MT s T T) (hT : T ≤ 30000) : ∃ U, U ≤ 30000 ∧ MT (mOp s x ν).2 U U := by
  unfold mOp
  split
  · exact ⟨T, hT, MT_alerts h⟩
  · split
    · exact ⟨T, hT, MT_acks h⟩
    · split
      · exact ⟨T, hT, MT_overrides h⟩
      · split
        · exact ⟨T, hT, MT_resolves h⟩
        · exact MT_pass h hT
/-- the loop over a command's numbers -/
theorem mCmLp_ok {N : Nat} {x : Int32} : ∀ (r i a : Nat) (w : mV), w 0 7 = nI a → ∃ a', a ≤ a' ∧ a' ≤ a + 4 * r ∧ (mCmLp N x r i a w).1 = a' ∧ (mCmLp N x r i a w).2 0 7 = nI a' ∧ (∀ q, q ≠ 0 → q ≠ 6 → (mCmLp N x r i a w).2 q = w q) ∧ ∀ f, f ≠ 7 → f ≠ 8 → (mCmLp N x r i a w).2 0 f = w 0 f
  | 0, i, a, w, h => ⟨a, by omega, by omega, rfl, h, fun _ _ _ => rfl, fun _ _ _ => rfl⟩
  | r + 1, i, a, w, h => by
    obtain ⟨j, j3, j1, j7, jq, jf⟩ := mRd_ok (v := w) (a := a) (N := N) (x := mSep x i)
    unfold mCmLp
    rw [j1]
    obtain ⟨a', h1, h2, h3, h4, h5, h6⟩ := mCmLp_ok (N := N) (x := x) r (i + 1) (a + 1 + j) (u2 (mRdE (mRd w a N (mSep x i))) 6 i (mRd w a N (mSep x i)).2.1) (by rw [u2_o (by omega)]; exact j7)
    refine ⟨a', by omega, by omega, h3, h4, fun q hq h6q => ?_, fun f hf h8 => ?_⟩
    · rw [h5 q hq h6q, u2_o h6q, jq q hq]
    · rw [h6 f hf h8, u2_o (by omega), jf f hf h8]
theorem mCnt_le {x : Int32} : mCnt x ≤ 3 := by
  unfold mCnt
  repeat' split
  all_goals omega
/-- what a command keeps -/
theorem mCmd_ok {v : mV} {s : Nat → Int32} {a N T : Nat} (ha : v 0 7 = nI a) (h : MT s T T) (hT : T ≤ 30000) : ∃ a' U, a < a' ∧ a' ≤ a + 13 ∧ (mCmd v s a N).2 0 7 = nI a' ∧ (∀ q, q ≠ 0 → q ≠ 1 → q ≠ 6 → (mCmd v s a N).2 q = v q) ∧ (∀ f, f ≠ 7 → f ≠ 8 → (mCmd v s a N).2 0 f = v 0 f) ∧ U ≤ 30000 ∧ MT ((mCmd v s a N).2 1) U U := by
  have hk := mCnt_le (x := mHere v a N)
  obtain ⟨a', h1, h2, h3, h4, h5, h6⟩ := mCmLp_ok (N := N) (x := mHere v a N) (mCnt (mHere v a N)) 0 a (u2 (sv v s) 0 8 (mForm (mHere v a N))) (by rw [u2_r, upd_o (by omega), sv_o (by omega)]; exact ha)
  unfold mCmd
  rw [show ∀ (p : Nat × mV), (let x := mHere v a N; let t := p; mCmE (mMust t.2 t.1 N 59) s x) = mCmE (mMust p.2 p.1 N 59) s (mHere v a N) from fun _ => rfl]
  rw [h3]
  generalize hw : (mCmLp N (mHere v a N) (mCnt (mHere v a N)) 0 a (u2 (sv v s) 0 8 (mForm (mHere v a N)))).2 = w at h4 h5 h6
  have w7 : mMust w a' N 59 0 7 = nI (a' + 1) := mMust_7
  have wq : ∀ q, q ≠ 0 → q ≠ 1 → q ≠ 6 → mMust w a' N 59 q = v q := fun q h0 h1 h6 => by rw [mMust_o h0, h5 q h0 h6, u2_o h0, sv_o h1]
  have w1 : mMust w a' N 59 1 = s := by rw [mMust_o (by omega), h5 1 (by omega) (by omega), u2_o (by omega), sv_1]
  have wf : ∀ f, f ≠ 7 → f ≠ 8 → mMust w a' N 59 0 f = v 0 f := fun f h7 h8 => by rw [mMust_f h7 h8, h6 f h7 h8, u2_r, upd_o h8, sv_o (by omega)]
  obtain ⟨U, hU, hM⟩ := MT_op (ν := (mMust w a' N 59) 6) (x := mHere v a N) h hT
  unfold mCmE
  split
  · exact ⟨a' + 1, T, by omega, by omega, w7, wq, wf, hT, by rw [show ((0 : Int32), mMust w a' N 59).2 1 = s from w1]; exact h⟩
  · refine ⟨a' + 1, U, by omega, by omega, ?_, fun q h0 h1 h6 => ?_, fun f h7 h8 => ?_, hU, hM⟩
    · show sv (mMust w a' N 59) (mOp s (mHere v a N) (mMust w a' N 59 6)).2 0 7 = _
      rw [sv_o (by omega)]; exact w7
    · show sv (mMust w a' N 59) (mOp s (mHere v a N) (mMust w a' N 59 6)).2 q = _
      rw [sv_o h1]; exact wq q h0 h1 h6
    · show sv (mMust w a' N 59) (mOp s (mHere v a N) (mMust w a' N 59 6)).2 0 f = _
      rw [sv_o (by omega)]; exact wf f h7 h8
