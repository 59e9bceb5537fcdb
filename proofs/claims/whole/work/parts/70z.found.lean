/-! ===== the reference: a page that was found has its time ===== -/
def IF' (σ : Nat → Int32) : Prop := ∀ i, i < 8 → σ (101 + 16 * i) = 1 → σ (101 + 16 * i + 14) = 0 ∨ ¬ σ (101 + 16 * i + 10) < 0
theorem IF_c {σ τ : Nat → Int32} (h : IF' σ) (ho : ∀ i, i < 8 → τ (101 + 16 * i) = 1 → (σ (101 + 16 * i) = 1 ∧ τ (101 + 16 * i + 14) = σ (101 + 16 * i + 14) ∧ τ (101 + 16 * i + 10) = σ (101 + 16 * i + 10)) ∨ (τ (101 + 16 * i + 14) = 0 ∨ ¬ τ (101 + 16 * i + 10) < 0)) : IF' τ := fun i hi hoi => by
  rcases ho i hi hoi with ⟨h1, h2, h3⟩ | h'
  · rw [h2, h3]; exact h i hi h1
  · exact h'
theorem IF_s {σ τ : Nat → Int32} (h : IF' σ) (hs : ∀ q, 101 ≤ q → τ q = σ q) : IF' τ := IF_c h (fun i hi ho => Or.inl ⟨by rw [← hs _ (by omega)]; exact ho, hs _ (by omega), hs _ (by omega)⟩)
theorem IF_page {σ : Nat → Int32} {i : Nat} (hI : MI σ) (hi : i < 8) (h : IF' σ) (ho : σ (101 + 16 * i) = 1) : IF' (mPage σ i) := by
  obtain ⟨T0, hT, eT, hlv⟩ := hI.2.2.1
  obtain ⟨l0, hl0, el⟩ := hlv i hi
  have hw := mPerson_or hI (T := T0) (l := l0) (by omega) eT (by omega) el
  refine IF_c h (fun k hk hok => ?_)
  by_cases hki : k = i
  · subst hki
    right
    unfold mPage mPageW
    by_cases h0 : mNone σ k (mPerson σ (σ 2) (σ (101 + 16 * k + 3))) = 0
    · rw [if_pos h0]
      rcases hw with e | ⟨p, hp, e⟩
      · rw [e] at h0
        exact absurd h0 (by unfold mNone; rw [if_pos (by decide)]; decide)
      · right
        rw [e, nI_clamp (show p < 2 ^ 31 by omega)]
        simp (disch := omega) only [upd_o, upd_r]
        rw [eT]; exact nI_nneg (by omega)
    · rw [if_neg h0]
      unfold mPage3
      simp (disch := omega) only [upd_o]
      exact h k hk ho
  · left
    rw [mPage_o hI hi (by omega) (fun w hw => by omega) (fun d hd => by omega)] at hok
    exact ⟨hok, mPage_o hI hi (by omega) (fun w hw => by omega) (fun d hd => by omega), mPage_o hI hi (by omega) (fun w hw => by omega) (fun d hd => by omega)⟩
theorem IF_minOf {σ : Nat → Int32} {i : Nat} (hI : MI σ) (hi : i < 8) (hL : ∃ l, l ≤ 60000 ∧ σ (101 + 16 * i + 3) = nI l) (h : IF' σ) (ho : σ (101 + 16 * i) = 1) : IF' (mMinOf σ i) := by
  have h1 : ∀ d, IF' (mMinA σ i d) := fun d => by
    unfold mMinA
    exact IF_c h (fun k hk hok => Or.inl (by simp (disch := omega) only [upd_o] at hok ⊢; exact ⟨hok, trivial, trivial⟩))
  have h2 : IF' (mHand σ i) := by
    unfold mHand mMinA
    exact IF_c h (fun k hk hok => Or.inl (by simp (disch := omega) only [upd_o] at hok ⊢; exact ⟨hok, trivial, trivial⟩))
  have h3 : IF' (mEsc σ i) := by
    unfold mEsc mMinA
    exact IF_c h (fun k hk hok => Or.inl (by simp (disch := omega) only [upd_o] at hok ⊢; exact ⟨hok, trivial, trivial⟩))
  exact mMinOf_cases IF' (IF_page (mHand_MI hI) hi h2 ((mHand_K1 (σ := σ) (i := i)).2.2.1.trans ho)) (h1 0) (IF_page (mEsc_MI hI hL) hi h3 ((mEsc_K1 (σ := σ) (i := i)).2.2.1.trans ho)) (IF_page (mMinA_MI hI) hi (h1 1) ((mMinA_K1 (σ := σ) (i := i) (d := 1)).2.2.1.trans ho))
theorem IF_minLp : ∀ (r i : Nat) (σ : Nat → Int32), i + r = 8 → MI σ → (∀ k, i ≤ k → k < 8 → ∃ l, l ≤ 60000 ∧ σ (101 + 16 * k + 3) = nI l) → IF' σ → IF' (mMinLp r i σ)
  | 0, _, _, _, _, _, h => h
  | r + 1, i, σ, hi, hI, hL, h => by
    unfold mMinLp
    split
    · exact IF_minLp r (i + 1) σ (by omega) hI (fun k h1 h2 => hL k (by omega) h2) h
    · rename_i hinc
      have ho : σ (101 + 16 * i) = 1 := Classical.byContradiction (fun z => hinc ((mInc_nI0 (by omega)).mpr z))
      have hLi := hL i (Nat.le_refl i) (by omega)
      exact IF_minLp r (i + 1) _ (by omega) (mMinOf_MI hI (by omega) hLi) (fun k h1 h2 => by rw [mMinOf_lvl hI (by omega) hLi (by omega)]; exact hL k (by omega) h2) (IF_minOf hI (by omega) hLi h ho)
theorem IF_mins : ∀ (r T : Nat) (σ : Nat → Int32), MT σ T T → T + r ≤ 30000 → IF' σ → IF' (mMins r σ)
  | 0, _, _, _, _, h => h
  | r + 1, T, σ, hM, hT, h => by
    have h2 : IF' (mMinute σ) := by
      unfold mMinute
      refine IF_minLp 8 0 _ rfl (by rw [hM.2.1, nI_1]; exact MI_time hM.1 (by omega)) (fun k _ hk => ?_) (IF_s h (fun q hq => upd_o (by omega)))
      obtain ⟨l, h1, h2⟩ := hM.2.2 k hk
      exact ⟨l, by omega, by rw [upd_o (by omega)]; exact h2⟩
    exact IF_mins r (T + 1) _ (mMinute_MT hM (by omega) (by omega)) (by omega) h2
theorem IF_pass {σ : Nat → Int32} {T : Nat} (hM : MT σ T T) (hT : T ≤ 30000) (h : IF' σ) (x : Int32) : IF' (mPass σ x).2 := by
  unfold mPass
  split
  · exact h
  · rename_i h0
    split
    · exact h
    · rename_i h1
      obtain ⟨M, hM6, rfl⟩ := mIn_600 h0
      rw [nI_clamp (show M < 2 ^ 31 by omega)]
      rw [hM.2.1, nI_add, na_lt kn_30000 rfl (by omega) (by omega)] at h1
      exact IF_mins M T σ hM (by omega) h
theorem IF_acks {σ : Nat → Int32} (h : IF' σ) (x : Int32) : IF' (mAcks σ x).2 := by
  unfold mAcks
  split
  · exact h
  · rename_i h0
    obtain ⟨j, hj, rfl⟩ := mInc_of h0
    rw [nI_clamp (show j < 2 ^ 31 by omega)]
    split
    · exact h
    · split
      · exact h
      · exact IF_c h (fun k hk hok => Or.inl (by simp (disch := omega) only [upd_o] at hok ⊢; exact ⟨hok, trivial, trivial⟩))
theorem IF_resolves {σ : Nat → Int32} (hI : MI σ) (h : IF' σ) (x : Int32) : IF' (mResolves σ x).2 := by
  have key : ∀ (τ : Nat → Int32) (j : Nat), j < 8 → IF' τ → IF' (mRes3 σ j τ) := fun τ j hj h => by
    unfold mRes3
    refine IF_c h (fun i hi ho => ?_)
    by_cases hij : i = j
    · subst hij
      simp (disch := omega) only [upd_o, upd_r] at ho
      exact absurd ho (by decide)
    · simp (disch := omega) only [upd_o] at ho ⊢
      exact Or.inl ⟨ho, trivial, trivial⟩
  unfold mResolves
  split
  · exact h
  · rename_i h0
    obtain ⟨j, hj, rfl⟩ := mInc_of h0
    rw [nI_clamp (show j < 2 ^ 31 by omega)]
    show IF' (ite _ _ _)
    split
    · rename_i h1
      obtain ⟨w, hw, ew⟩ := hI.2.2.2.2.2.2.2 j hj
      rw [ew] at h1 ⊢
      have hw0 : 0 < w := (na_lt kn_0 rfl (by omega) (by omega)).mp h1
      rw [show nI w - 1 = nI (w - 1) by rw [show w = w - 1 + 1 by omega, nI_pred, Nat.add_sub_cancel], nI_clamp (show w - 1 < 2 ^ 31 by omega)]
      exact key _ j hj (IF_s h (fun q hq => upd_o (by omega)))
    · exact key σ j hj h
theorem IF_new {σ : Nat → Int32} {j : Nat} {x y : Int32} (h : IF' σ) (hj : j < 8) : IF' (mNew σ j x y) := by
  refine IF_c h (fun i hi ho => ?_)
  by_cases hij : i = j
  · subst hij
    exact Or.inr (Or.inl (mNew_z (by omega) (by omega)))
  · rw [mNew_o (by omega) (by omega)] at ho
    exact Or.inl ⟨ho, mNew_o (by omega) (by omega), mNew_o (by omega) (by omega)⟩
theorem IF_fold {σ : Nat → Int32} {j : Nat} {y : Int32} (h : IF' σ) : IF' (mFold σ j y) := by
  unfold mFold
  exact IF_c h (fun k hk hok => Or.inl (by simp (disch := omega) only [upd_o] at hok ⊢; exact ⟨hok, trivial, trivial⟩))
theorem IF_alerts {σ : Nat → Int32} {T B : Nat} (hN : IN σ T B) (h : IF' σ) (x y : Int32) : IF' (mAlerts σ x y).2 := by
  have hI := hN.1.2.1.1
  by_cases h1 : mIn x 0 19 = 0
  · rw [mAlerts, if_pos h1]; exact h
  · by_cases h2 : mIn y 0 2 = 0
    · rw [mAlerts, if_neg h1, if_pos h2]; exact h
    · by_cases h0 : mFolLp σ x 8 0 < 0
      · rw [mAlerts, if_neg h1, if_neg h2, if_pos h0]
        by_cases h3 : mFreeLp σ 8 (-1) < 0
        · rw [mOpens, if_pos h3]; exact h
        · obtain ⟨j, hj, ej⟩ := (mFreeLp_or σ 8 (-1) (by omega) (Or.inl rfl)).resolve_left (fun z => h3 (by rw [z]; decide))
          have e : (mOpens σ x y).2 = mPage (mNew σ j x y) j := by rw [mOpens, if_neg h3, ej, nI_clamp (show j < 2 ^ 31 by omega)]
          rw [e]
          exact IF_page (MI_new hI) hj (IF_new h hj) (by unfold mNew; simp (disch := omega) only [upd_o, upd_r])
      · obtain ⟨j, hj, ej⟩ := (mFolLp_or σ x 8 0 rfl).resolve_left (fun z => h0 (by rw [z]; decide))
        have e : (mAlerts σ x y).2 = if σ (101 + 16 * j + 2) < y then (if σ (101 + 16 * j + 4) = 0 then mPage (mFold σ j y) j else mFold σ j y) else mFold σ j y := by rw [mAlerts, if_neg h1, if_neg h2, if_neg h0, ej, nI_clamp (show j < 2 ^ 31 by omega)]
        have ho : σ (101 + 16 * j) = 1 := by
          have hop : ∀ r i, i + r = 8 → mFolLp σ x r i = nI j → σ (101 + 16 * j) = 1 := by
            intro r
            induction r with
            | zero => intro i _ hz; exact absurd (show (-1 : Int32) = nI j from hz) (fun z => nI_nneg (j := j) (by omega) (by rw [← z]; decide))
            | succ r ih =>
              intro i hi hz
              unfold mFolLp at hz
              by_cases hc : mInc σ (nI i) = 0
              · rw [if_pos hc] at hz; exact ih (i + 1) (by omega) hz
              · rw [if_neg hc] at hz
                split at hz
                · split at hz
                  · exact ih (i + 1) (by omega) hz
                  · have : i = j := (na_eq rfl rfl (by omega) (by omega)).mp hz
                    subst this
                    exact Classical.byContradiction (fun z => hc ((mInc_nI0 (by omega)).mpr z))
                · exact ih (i + 1) (by omega) hz
          exact hop 8 0 rfl ej
        have hfo : mFold σ j y (101 + 16 * j) = 1 := by unfold mFold; simp (disch := omega) only [upd_o]; exact ho
        rw [e]
        split
        · split
          · exact IF_page (MI_fold hI) hj (IF_fold h) hfo
          · exact IF_fold h
        · exact IF_fold h
theorem IF_comes {σ : Nat → Int32} (h : IF' σ) : IF' (mComes σ).2 := by
  unfold mComes
  split
  · exact h
  · exact IF_s h (fun q hq => upd_o (by omega))
theorem IF_lies {σ : Nat → Int32} (hI : MI σ) (h : IF' σ) (x y z : Int32) : IF' (mLies σ x y z).2 := by
  obtain ⟨R, r1, r2, -⟩ := hI.2.1
  unfold mLies
  repeat' split
  all_goals first | exact h | skip
  rw [r2, nI_clamp (show R < 2 ^ 31 by omega)]
  rename_i h3
  have hR3 : R < 3 := by
    by_cases hz : R < 3
    · exact hz
    · exact absurd (by rw [r2, show R = 3 by omega]; exact kn_3.symm) h3
  exact IF_s h (fun q hq => by simp (disch := omega) only [upd_o])
theorem IF_joins {σ : Nat → Int32} (hI : MI σ) (h : IF' σ) (x y : Int32) : IF' (mJoins σ x y).2 := by
  unfold mJoins
  split
  · exact h
  · rename_i h1
    obtain ⟨k0, hk0, rfl⟩ := mIn_R hI h1
    rw [nI_clamp (show k0 < 2 ^ 31 by omega)]
    split
    · exact h
    · split
      · split
        · exact h
        · rename_i h5
          obtain ⟨m, hm, em⟩ := hI.2.2.2.2.1 k0 hk0
          have hm5 : m < 5 := by
            by_cases hz : m < 5
            · exact hz
            · exact absurd (by rw [em, show m = 5 by omega]; exact kn_5.symm) h5
          rw [em, nI_clamp (show m < 2 ^ 31 by omega)]
          exact IF_s h (fun q hq => by simp (disch := omega) only [upd_o])
      · exact h
theorem IF_leaves {σ : Nat → Int32} (hI : MI σ) (h : IF' σ) (x y : Int32) : IF' (mLeaves σ x y).2 := by
  unfold mLeaves
  split
  · exact h
  · rename_i h1
    obtain ⟨k0, hk0, rfl⟩ := mIn_R hI h1
    rw [nI_clamp (show k0 < 2 ^ 31 by omega)]
    split
    · exact h
    · split
      · exact h
      · rename_i h3
        obtain ⟨m, hm, em⟩ := hI.2.2.2.2.1 k0 hk0
        obtain ⟨q, hq, eq⟩ := mPlaceIn_of hm em h3
        rw [em, eq, nI_clamp (show m < 2 ^ 31 by omega), nI_clamp (show q < 2 ^ 31 by omega)]
        exact IF_s h (fun q hq => (mShLp_o _ _ _ (by omega)).trans (upd_o (by omega)))
theorem IF_rests {σ : Nat → Int32} (hI : MI σ) (h : IF' σ) (x y z : Int32) : IF' (mRests σ x y z).2 := by
  unfold mRests
  split
  · exact h
  · rename_i h1
    obtain ⟨j, hj, rfl⟩ := mIn_P hI h1
    rw [nI_clamp (show j < 2 ^ 31 by omega)]
    split
    · exact h
    · split
      · exact h
      · exact IF_s h (fun q hq => by simp (disch := omega) only [upd_o])
theorem IF_excs {σ : Nat → Int32} (hI : MI σ) (h : IF' σ) (x y : Int32) : IF' (mExcs σ x y).2 := by
  unfold mExcs
  split
  · exact h
  · rename_i h1
    obtain ⟨j, hj, rfl⟩ := mIn_P hI h1
    rw [nI_clamp (show j < 2 ^ 31 by omega)]
    split
    · exact h
    · exact IF_s h (fun q hq => upd_o (by omega))
theorem IF_sets {σ : Nat → Int32} (h : IF' σ) (x y : Int32) : IF' (mSets σ x y).2 := by
  unfold mSets
  split
  · exact h
  · rename_i h1
    obtain ⟨j, hj, rfl⟩ := mIn_1 h1
    rw [nI_clamp (show j < 2 ^ 31 by omega)]
    repeat' split
    all_goals first | exact h | exact IF_s h (fun q hq => upd_o (by omega))
theorem IF_overrides {σ : Nat → Int32} (hI : MI σ) (h : IF' σ) (x y z : Int32) : IF' (mOverrides σ x y z).2 := by
  unfold mOverrides
  split
  · exact h
  · split
    · exact h
    · split
      · exact h
      · split
        · exact h
        · rename_i h6
          obtain ⟨hF, hF6⟩ := mForce_n hI
          have e15 := mClears_15 (σ := σ)
          have hcO : ∀ q, 101 ≤ q → mClears σ q = σ q := fun q hq => mClears_o hI (by omega)
          generalize (mClrLp (σ 15).toNatClampNeg 0 0 σ).1 = N at hF hF6 e15
          have hN5 : N < 6 := by
            by_cases hz : N < 6
            · exact hz
            · exact absurd (by rw [hF, show N = 6 by omega]; exact kn_6.symm) h6
          rw [e15, nI_clamp (show N < 2 ^ 31 by omega)]
          refine IF_s h (fun q hq => ?_)
          unfold mOvr4
          simp (disch := omega) only [upd_o]
          exact hcO q hq
