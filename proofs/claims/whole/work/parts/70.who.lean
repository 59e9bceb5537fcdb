/-! ===== the reference: who is named was taken in ===== -/
def PW (σ : Nat → Int32) (P : Nat) : Prop := (∀ k, k < 3 → ∀ m, m ≤ 5 → σ (56 + 9 * k + 3) = nI m → ∀ j, j < m → ∃ p, p < P ∧ σ (56 + 9 * k + (4 + j)) = nI p) ∧ ∀ O, O ≤ 6 → σ 15 = nI O → ∀ k, k < O → ∃ p, p < P ∧ σ (83 + 3 * k + 1) = nI p
def IW (σ : Nat → Int32) (P : Nat) : Prop := P ≤ 8 ∧ σ 0 = nI P ∧ PW σ P ∧ OW σ P
theorem IW_c {σ τ : Nat → Int32} {P : Nat} (hW : IW σ P) (h0 : τ 0 = σ 0) (h15 : τ 15 = σ 15) (hr : ∀ k d, k < 3 → 3 ≤ d → d < 9 → τ (56 + 9 * k + d) = σ (56 + 9 * k + d)) (hs : ∀ k, k < 6 → τ (83 + 3 * k + 1) = σ (83 + 3 * k + 1)) (ho : ∀ i, i < 8 → τ (101 + 16 * i) = 1 → (σ (101 + 16 * i) = 1 ∧ τ (101 + 16 * i + 4) = σ (101 + 16 * i + 4)) ∨ ∃ w, w ≤ P ∧ τ (101 + 16 * i + 4) = nI w) : IW τ P := by
  obtain ⟨a, b, ⟨c1, c2⟩, d⟩ := hW
  refine ⟨a, h0.trans b, ⟨fun k hk m hm em j hj => ?_, fun O hO eO k hk => ?_⟩, fun i hi hoi => ?_⟩
  · rw [hr k _ hk (by omega) (by omega)]
    rw [hr k 3 hk (by omega) (by omega)] at em
    exact c1 k hk m hm em j hj
  · rw [hs k (by omega)]
    exact c2 O hO (h15.symm.trans eO) k hk
  · rcases ho i hi hoi with ⟨h1, h2⟩ | h
    · rw [h2]; exact d i hi h1
    · exact h
theorem mStLp_P {σ : Nat → Int32} {P O : Nat} (hO : O ≤ 6) (eO : σ 15 = nI O) (hW : PW σ P) (rg t : Int32) : ∀ (r i : Nat) (f : Int32), i + r ≤ O → (f = -1 ∨ ∃ p, p < P ∧ f = nI p) → mStLp σ rg t r i f = -1 ∨ ∃ p, p < P ∧ mStLp σ rg t r i f = nI p
  | 0, _, f, _, hf => hf
  | r + 1, i, f, hi, hf => by
    unfold mStLp
    refine mStLp_P hO eO hW rg t r (i + 1) _ (by omega) ?_
    split
    · split
      · exact Or.inr (hW.2 O hO eO i (by omega))
      · exact hf
    · exact hf
theorem mPerson_P {σ : Nat → Int32} (hI : MI σ) {P : Nat} (hW : PW σ P) {t lv : Int32} {T l : Nat} (hT : T ≤ 100000) (et : t = nI T) (hl : l ≤ 100000) (el : lv = nI l) : mPerson σ t lv = -1 ∨ ∃ p, p < P ∧ mPerson σ t lv = nI p := by
  unfold mPerson
  split
  · exact Or.inl rfl
  · rename_i h0
    obtain ⟨j, hj, ej, ⟨sh, h1, h2, esh⟩, mm, m1, m5, em⟩ := mRegion_pos hI h0
    obtain ⟨O, hO, eO⟩ := hI.2.2.2.1
    have hf : (if lv = 0 then mStLp σ (mRegion σ t) t (σ 15).toNatClampNeg 0 (-1) else -1) = -1 ∨ ∃ p, p < P ∧ (if lv = 0 then mStLp σ (mRegion σ t) t (σ 15).toNatClampNeg 0 (-1) else -1) = nI p := by
      split
      · rw [show (σ 15).toNatClampNeg = O by rw [eO]; exact nI_clamp (by omega)]
        exact mStLp_P hO eO hW _ _ O 0 (-1) (by omega) (Or.inl rfl)
      · exact Or.inl rfl
    revert hf
    generalize (if lv = 0 then mStLp σ (mRegion σ t) t (σ 15).toNatClampNeg 0 (-1) else -1) = f
    intro hf
    split
    · have ep : mPlace σ j t lv = nI ((T / 60 / sh + l) % mm) := by
        unfold mPlace
        rw [esh, em]
        exact mPlace_of hT et hl el h1 h2 m1 m5
      have hpm : (T / 60 / sh + l) % mm < mm := Nat.mod_lt _ (by omega)
      rw [ej, nI_clamp (show j < 2 ^ 31 by omega), ep, nI_clamp (show (T / 60 / sh + l) % mm < 2 ^ 31 by omega)]
      exact Or.inr (hW.1 j hj mm m5 em _ hpm)
    · exact hf
theorem mPage_4 {σ : Nat → Int32} {i P : Nat} (hI : MI σ) (hi : i < 8) (hW : PW σ P) (hP : P ≤ 8) : ∃ w, w ≤ P ∧ mPage σ i (101 + 16 * i + 4) = nI w := by
  obtain ⟨T, hT, eT, hlv⟩ := hI.2.2.1
  obtain ⟨l0, hl0, el⟩ := hlv i hi
  have hw := mPerson_P hI hW (T := T) (l := l0) (by omega) eT (by omega) el
  unfold mPage mPageW
  by_cases h0 : mNone σ i (mPerson σ (σ 2) (σ (101 + 16 * i + 3))) = 0
  · rw [if_pos h0]
    rcases hw with e | ⟨p, hp, e⟩
    · rw [e] at h0
      exact absurd h0 (by unfold mNone; rw [if_pos (by decide)]; decide)
    · rw [e, nI_clamp (show p < 2 ^ 31 by omega), nI_1]
      unfold mPage3
      simp (disch := omega) only [upd_o, upd_r]
      exact ⟨p + 1, by omega, rfl⟩
  · rw [if_neg h0]
    unfold mPage3
    simp (disch := omega) only [upd_o, upd_r]
    exact ⟨0, by omega, kn_0⟩
theorem IW_page {σ : Nat → Int32} {i P : Nat} (hI : MI σ) (hi : i < 8) (hW : IW σ P) : IW (mPage σ i) P := by
  refine IW_c hW (mPage_t hI hi (by omega) (by omega)) (mPage_t hI hi (by omega) (by omega)) (fun k d hk h1 h2 => mPage_o hI hi (by omega) (fun w hw => by omega) (fun d hd => by omega)) (fun k hk => mPage_o hI hi (by omega) (fun w hw => by omega) (fun d hd => by omega)) (fun j hj ho => ?_)
  by_cases hji : j = i
  · subst hji
    exact Or.inr (mPage_4 hI hj hW.2.2.1 hW.1)
  · left
    rw [mPage_o hI hi (by omega) (fun w hw => by omega) (fun d hd => by omega)] at ho
    exact ⟨ho, mPage_o hI hi (by omega) (fun w hw => by omega) (fun d hd => by omega)⟩
theorem IW_minOf {σ : Nat → Int32} {i P : Nat} (hI : MI σ) (hi : i < 8) (hL : ∃ l, l ≤ 60000 ∧ σ (101 + 16 * i + 3) = nI l) (hW : IW σ P) : IW (mMinOf σ i) P := by
  have h1 : ∀ d, IW (mMinA σ i d) P := fun d => by
    unfold mMinA
    exact IW_c hW (by simp (disch := omega) only [upd_o]) (by simp (disch := omega) only [upd_o]) (fun k d hk h1 h2 => by simp (disch := omega) only [upd_o]) (fun k hk => by simp (disch := omega) only [upd_o]) (fun j hj ho => Or.inl (by simp (disch := omega) only [upd_o] at ho ⊢; exact ⟨ho, trivial⟩))
  refine mMinOf_cases (fun τ => IW τ P) (IW_page (mHand_MI hI) hi ?_) (h1 0) (IW_page (mEsc_MI hI hL) hi ?_) (IW_page (mMinA_MI hI) hi (h1 1))
  · unfold mHand mMinA
    exact IW_c hW (by simp (disch := omega) only [upd_o]) (by simp (disch := omega) only [upd_o]) (fun k d hk h1 h2 => by simp (disch := omega) only [upd_o]) (fun k hk => by simp (disch := omega) only [upd_o]) (fun j hj ho => Or.inl (by simp (disch := omega) only [upd_o] at ho ⊢; exact ⟨ho, trivial⟩))
  · unfold mEsc mMinA
    exact IW_c hW (by simp (disch := omega) only [upd_o]) (by simp (disch := omega) only [upd_o]) (fun k d hk h1 h2 => by simp (disch := omega) only [upd_o]) (fun k hk => by simp (disch := omega) only [upd_o]) (fun j hj ho => Or.inl (by simp (disch := omega) only [upd_o] at ho ⊢; exact ⟨ho, trivial⟩))
theorem IW_minLp {P : Nat} : ∀ (r i : Nat) (σ : Nat → Int32), i + r = 8 → MI σ → (∀ k, i ≤ k → k < 8 → ∃ l, l ≤ 60000 ∧ σ (101 + 16 * k + 3) = nI l) → IW σ P → IW (mMinLp r i σ) P
  | 0, _, _, _, _, _, h => h
  | r + 1, i, σ, hi, hI, hL, hW => by
    unfold mMinLp
    split
    · exact IW_minLp r (i + 1) σ (by omega) hI (fun k h1 h2 => hL k (by omega) h2) hW
    · have hLi := hL i (Nat.le_refl i) (by omega)
      exact IW_minLp r (i + 1) _ (by omega) (mMinOf_MI hI (by omega) hLi) (fun k h1 h2 => by rw [mMinOf_lvl hI (by omega) hLi (by omega)]; exact hL k (by omega) h2) (IW_minOf hI (by omega) hLi hW)
theorem IW_mins {P : Nat} : ∀ (r T : Nat) (σ : Nat → Int32), MT σ T T → T + r ≤ 30000 → IW σ P → IW (mMins r σ) P
  | 0, _, _, _, _, h => h
  | r + 1, T, σ, hM, hT, hW => by
    have h2 : IW (mMinute σ) P := by
      unfold mMinute
      refine IW_minLp 8 0 _ rfl (by rw [hM.2.1, nI_1]; exact MI_time hM.1 (by omega)) (fun k _ hk => ?_) ?_
      · obtain ⟨l, h1, h2⟩ := hM.2.2 k hk
        exact ⟨l, by omega, by rw [upd_o (by omega)]; exact h2⟩
      · exact IW_c hW (upd_o (by omega)) (upd_o (by omega)) (fun k d hk h1 h2 => upd_o (by omega)) (fun k hk => upd_o (by omega)) (fun j hj ho => Or.inl (by rw [upd_o (by omega)] at ho ⊢; exact ⟨ho, rfl⟩))
    exact IW_mins r (T + 1) _ (mMinute_MT hM (by omega) (by omega)) (by omega) h2
theorem IW_pass {σ : Nat → Int32} {P T : Nat} (hM : MT σ T T) (hT : T ≤ 30000) (hW : IW σ P) (x : Int32) : IW (mPass σ x).2 P := by
  unfold mPass
  split
  · exact hW
  · rename_i h0
    split
    · exact hW
    · rename_i h1
      obtain ⟨M, hM6, rfl⟩ := mIn_600 h0
      rw [nI_clamp (show M < 2 ^ 31 by omega)]
      rw [hM.2.1, nI_add, na_lt kn_30000 rfl (by omega) (by omega)] at h1
      exact IW_mins M T σ hM (by omega) hW
theorem IW_acks {σ : Nat → Int32} {P : Nat} (hW : IW σ P) (x : Int32) : IW (mAcks σ x).2 P := by
  unfold mAcks
  split
  · exact hW
  · rename_i h0
    obtain ⟨j, hj, rfl⟩ := mInc_of h0
    rw [nI_clamp (show j < 2 ^ 31 by omega)]
    split
    · exact hW
    · split
      · exact hW
      · exact IW_c hW (by simp (disch := omega) only [upd_o]) (by simp (disch := omega) only [upd_o]) (fun k d hk h1 h2 => by simp (disch := omega) only [upd_o]) (fun k hk => by simp (disch := omega) only [upd_o]) (fun j hj ho => Or.inl (by simp (disch := omega) only [upd_o] at ho ⊢; exact ⟨ho, trivial⟩))
theorem IW_resolves {σ : Nat → Int32} {P : Nat} (hI : MI σ) (hW : IW σ P) (x : Int32) : IW (mResolves σ x).2 P := by
  have key : ∀ (τ : Nat → Int32) (j : Nat), j < 8 → IW τ P → IW (mRes3 σ j τ) P := fun τ j hj hW => by
    unfold mRes3
    refine IW_c hW (by simp (disch := omega) only [upd_o]) (by simp (disch := omega) only [upd_o]) (fun k d hk h1 h2 => by simp (disch := omega) only [upd_o]) (fun k hk => by simp (disch := omega) only [upd_o]) (fun i hi ho => ?_)
    by_cases hij : i = j
    · subst hij
      simp (disch := omega) only [upd_o, upd_r] at ho
      exact absurd ho (by decide)
    · simp (disch := omega) only [upd_o] at ho ⊢
      exact Or.inl ⟨ho, trivial⟩
  unfold mResolves
  split
  · exact hW
  · rename_i h0
    obtain ⟨j, hj, rfl⟩ := mInc_of h0
    rw [nI_clamp (show j < 2 ^ 31 by omega)]
    show IW (ite _ _ _) P
    split
    · rename_i h1
      obtain ⟨w, hw, ew⟩ := hI.2.2.2.2.2.2.2 j hj
      rw [ew] at h1 ⊢
      have hw0 : 0 < w := (na_lt kn_0 rfl (by omega) (by omega)).mp h1
      rw [show nI w - 1 = nI (w - 1) by rw [show w = w - 1 + 1 by omega, nI_pred, Nat.add_sub_cancel], nI_clamp (show w - 1 < 2 ^ 31 by omega)]
      refine key _ j hj (IW_c hW (upd_o (by omega)) (upd_o (by omega)) (fun k d hk h1 h2 => upd_o (by omega)) (fun k hk => upd_o (by omega)) (fun i hi ho => Or.inl (by rw [upd_o (by omega)] at ho ⊢; exact ⟨ho, rfl⟩)))
    · exact key σ j hj hW
theorem IW_new {σ : Nat → Int32} {P j : Nat} {x y : Int32} (hW : IW σ P) (hj : j < 8) : IW (mNew σ j x y) P := by
  refine IW_c hW (mNew_o (by omega) (by omega)) (mNew_o (by omega) (by omega)) (fun k d hk h1 h2 => mNew_o (by omega) (by omega)) (fun k hk => mNew_o (by omega) (by omega)) (fun i hi ho => ?_)
  by_cases hij : i = j
  · subst hij
    exact Or.inr ⟨0, by omega, (mNew_z (by omega) (by omega)).trans kn_0⟩
  · rw [mNew_o (by omega) (by omega)] at ho
    exact Or.inl ⟨ho, mNew_o (by omega) (by omega)⟩
theorem IW_fold {σ : Nat → Int32} {P j : Nat} {y : Int32} (hW : IW σ P) (hj : j < 8) : IW (mFold σ j y) P := by
  unfold mFold
  exact IW_c hW (by simp (disch := omega) only [upd_o]) (by simp (disch := omega) only [upd_o]) (fun k d hk h1 h2 => by simp (disch := omega) only [upd_o]) (fun k hk => by simp (disch := omega) only [upd_o]) (fun j hj ho => Or.inl (by simp (disch := omega) only [upd_o] at ho ⊢; exact ⟨ho, trivial⟩))
theorem IW_alerts {σ : Nat → Int32} {P : Nat} (hI : MI σ) (hW : IW σ P) (x y : Int32) : IW (mAlerts σ x y).2 P := by
  by_cases h1 : mIn x 0 19 = 0
  · rw [mAlerts, if_pos h1]; exact hW
  · by_cases h2 : mIn y 0 2 = 0
    · rw [mAlerts, if_neg h1, if_pos h2]; exact hW
    · by_cases h0 : mFolLp σ x 8 0 < 0
      · rw [mAlerts, if_neg h1, if_neg h2, if_pos h0]
        by_cases h3 : mFreeLp σ 8 (-1) < 0
        · rw [mOpens, if_pos h3]; exact hW
        · obtain ⟨j, hj, ej⟩ := (mFreeLp_or σ 8 (-1) (by omega) (Or.inl rfl)).resolve_left (fun z => h3 (by rw [z]; decide))
          have e : (mOpens σ x y).2 = mPage (mNew σ j x y) j := by rw [mOpens, if_neg h3, ej, nI_clamp (show j < 2 ^ 31 by omega)]
          rw [e]
          exact IW_page (MI_new hI) hj (IW_new hW hj)
      · obtain ⟨j, hj, ej⟩ := (mFolLp_or σ x 8 0 rfl).resolve_left (fun z => h0 (by rw [z]; decide))
        have e : (mAlerts σ x y).2 = if σ (101 + 16 * j + 2) < y then (if σ (101 + 16 * j + 4) = 0 then mPage (mFold σ j y) j else mFold σ j y) else mFold σ j y := by rw [mAlerts, if_neg h1, if_neg h2, if_neg h0, ej, nI_clamp (show j < 2 ^ 31 by omega)]
        rw [e]
        split
        · split
          · exact IW_page (MI_fold hI) hj (IW_fold hW hj)
          · exact IW_fold hW hj
        · exact IW_fold hW hj
theorem mIn_P2 {σ : Nat → Int32} {P : Nat} {x : Int32} (hP : P ≤ 8) (eP : σ 0 = nI P) (h : ¬ mIn x 0 (σ 0 - 1) = 0) : ∃ p, p < P ∧ x = nI p := mIn_of (k := P) (by rw [eP]) (by omega) h
theorem mClrLp_P {P O : Nat} (hO : O ≤ 6) : ∀ (r k n : Nat) (σ : Nat → Int32), n ≤ k → k + r = O → (∀ j, (j < n ∨ k ≤ j) → j < O → ∃ p, p < P ∧ σ (83 + 3 * j + 1) = nI p) → ∀ j, j < (mClrLp r k n σ).1 → ∃ p, p < P ∧ (mClrLp r k n σ).2 (83 + 3 * j + 1) = nI p
  | 0, k, n, σ, hn, hk, h => fun j hj => h j (Or.inl hj) (by have : j < n := hj; omega)
  | r + 1, k, n, σ, hn, hk, h => by
    unfold mClrLp
    split
    · refine mClrLp_P hO r (k + 1) (n + 1) _ (by omega) (by omega) (fun j hj hjO => ?_)
      by_cases hjn : j = n
      · subst hjn
        rw [cp_val hn (by omega) 1 (by omega)]
        exact h k (Or.inr (Nat.le_refl k)) (by omega)
      · rw [mCpLp_o 3 0 σ (by omega)]
        exact h j (by omega) hjO
    · exact mClrLp_P hO r (k + 1) n σ (by omega) (by omega) (fun j hj hjO => h j (by omega) hjO)
theorem IW_overrides {σ : Nat → Int32} {P : Nat} (hI : MI σ) (hW : IW σ P) (x y z : Int32) : IW (mOverrides σ x y z).2 P := by
  unfold mOverrides
  split
  · exact hW
  · split
    · exact hW
    · rename_i hy
      split
      · exact hW
      · split
        · exact hW
        · rename_i h6
          obtain ⟨p, hp, rfl⟩ := mIn_P2 hW.1 hW.2.1 hy
          obtain ⟨hF, hF6⟩ := mForce_n hI
          obtain ⟨O, hO, eO⟩ := hI.2.2.2.1
          have e15 := mClears_15 (σ := σ)
          have hcl : (σ 15).toNatClampNeg = O := by rw [eO]; exact nI_clamp (by omega)
          rw [hcl] at hF hF6 e15
          have hP1 := mClrLp_P (P := P) hO O 0 0 σ (Nat.le_refl 0) (by omega) (fun j _ hj => hW.2.2.1.2 O hO eO j hj)
          have hv : ∀ j, j < (mClrLp O 0 0 σ).1 → ∃ p, p < P ∧ mClears σ (83 + 3 * j + 1) = nI p := fun j hj => by
            unfold mClears
            rw [hcl, upd_o (by omega)]
            exact hP1 j hj
          have hcO : ∀ q, (q < 15 ∨ (15 < q ∧ q < 83) ∨ 101 ≤ q) → mClears σ q = σ q := fun q hq => mClears_o hI hq
          generalize (mClrLp O 0 0 σ).1 = N at hF hF6 e15 hv
          have hN5 : N < 6 := by
            by_cases hz : N < 6
            · exact hz
            · exact absurd (by rw [hF, show N = 6 by omega]; exact kn_6.symm) h6
          rw [e15, nI_clamp (show N < 2 ^ 31 by omega)]
          show IW (mOvr4 (mClears σ) N x (nI p) z) P
          obtain ⟨a, b, ⟨c1, c2⟩, d⟩ := hW
          have hs : ∀ q, (q < 15 ∨ (15 < q ∧ q < 83) ∨ 101 ≤ q) → mOvr4 (mClears σ) N x (nI p) z q = σ q := fun q hq => by
            unfold mOvr4
            rw [upd_o (by omega), upd_o (by omega), upd_o (by omega), upd_o (by omega)]
            exact hcO q hq
          refine ⟨a, (hs 0 (by omega)).trans b, ⟨fun k hk m hm em j hj => ?_, fun O' hO' eO' k hk => ?_⟩, fun i hi ho => ?_⟩
          · rw [hs _ (by omega)]
            rw [hs _ (by omega)] at em
            exact c1 k hk m hm em j hj
          · have eN : O' = N + 1 := by
              unfold mOvr4 at eO'
              rw [upd_r, e15, nI_1] at eO'
              exact ((na_eq rfl rfl (by omega) (by omega)).mp eO').symm
            unfold mOvr4
            by_cases hkN : k = N
            · subst hkN
              rw [upd_o (by omega), upd_o (by omega), upd_r]
              exact ⟨p, hp, rfl⟩
            · simp (disch := omega) only [upd_o]
              exact hv k (by omega)
          · rw [hs _ (by omega)] at ho
            rw [hs _ (by omega)]
            exact d i hi ho
theorem IW_comes {σ : Nat → Int32} {P : Nat} (hW : IW σ P) : ∃ P', IW (mComes σ).2 P' := by
  obtain ⟨a, b, ⟨c1, c2⟩, d⟩ := hW
  unfold mComes
  by_cases h8 : σ 0 = 8
  · rw [if_pos h8]; exact ⟨P, a, b, ⟨c1, c2⟩, d⟩
  · rw [if_neg h8]
    have hP : P < 8 := by
      by_cases hz : P < 8
      · exact hz
      · exact absurd (by rw [b, show P = 8 by omega]; exact kn_8.symm) h8
    refine ⟨P + 1, by omega, by show upd σ 0 (σ 0 + 1) 0 = _; rw [upd_r, b, nI_1], ⟨fun k hk m hm em j hj => ?_, fun O hO eO k hk => ?_⟩, fun i hi ho => ?_⟩
    · have em' : upd σ 0 (σ 0 + 1) (56 + 9 * k + 3) = nI m := em
      rw [upd_o (by omega)] at em'
      obtain ⟨p, h1, h2⟩ := c1 k hk m hm em' j hj
      exact ⟨p, by omega, (upd_o (by omega)).trans h2⟩
    · have eO' : upd σ 0 (σ 0 + 1) 15 = nI O := eO
      rw [upd_o (by omega)] at eO'
      obtain ⟨p, h1, h2⟩ := c2 O hO eO' k hk
      exact ⟨p, by omega, (show upd σ 0 (σ 0 + 1) (83 + 3 * k + 1) = nI p from (upd_o (by omega)).trans h2)⟩
    · have ho' : upd σ 0 (σ 0 + 1) (101 + 16 * i) = 1 := ho
      rw [upd_o (by omega)] at ho'
      obtain ⟨w, h1, h2⟩ := d i hi ho'
      exact ⟨w, by omega, (show upd σ 0 (σ 0 + 1) (101 + 16 * i + 4) = nI w from (upd_o (by omega)).trans h2)⟩
theorem IW_lies {σ : Nat → Int32} {P : Nat} (hI : MI σ) (hW : IW σ P) (x y z : Int32) : IW (mLies σ x y z).2 P := by
  obtain ⟨R, r1, r2, -⟩ := hI.2.1
  unfold mLies
  repeat' split
  all_goals first | exact hW | skip
  rename_i h3
  have hR3 : R < 3 := by
    by_cases hz : R < 3
    · exact hz
    · exact absurd (by rw [r2, show R = 3 by omega]; exact kn_3.symm) h3
  rw [r2, nI_clamp (show R < 2 ^ 31 by omega)]
  exact IW_c hW (by simp (disch := omega) only [upd_o]) (by simp (disch := omega) only [upd_o]) (fun k d hk h1 h2 => by simp (disch := omega) only [upd_o]) (fun k hk => by simp (disch := omega) only [upd_o]) (fun j hj ho => Or.inl (by simp (disch := omega) only [upd_o] at ho ⊢; exact ⟨ho, trivial⟩))
theorem IW_rests {σ : Nat → Int32} {P : Nat} (hI : MI σ) (hW : IW σ P) (x y z : Int32) : IW (mRests σ x y z).2 P := by
  unfold mRests
  split
  · exact hW
  · rename_i h1
    obtain ⟨j, hj, rfl⟩ := mIn_P hI h1
    rw [nI_clamp (show j < 2 ^ 31 by omega)]
    split
    · exact hW
    · split
      · exact hW
      · exact IW_c hW (by simp (disch := omega) only [upd_o]) (by simp (disch := omega) only [upd_o]) (fun k d hk h1 h2 => by simp (disch := omega) only [upd_o]) (fun k hk => by simp (disch := omega) only [upd_o]) (fun j hj ho => Or.inl (by simp (disch := omega) only [upd_o] at ho ⊢; exact ⟨ho, trivial⟩))
theorem IW_excs {σ : Nat → Int32} {P : Nat} (hI : MI σ) (hW : IW σ P) (x y : Int32) : IW (mExcs σ x y).2 P := by
  unfold mExcs
  split
  · exact hW
  · rename_i h1
    obtain ⟨j, hj, rfl⟩ := mIn_P hI h1
    rw [nI_clamp (show j < 2 ^ 31 by omega)]
    split
    · exact hW
    · show IW (upd σ (16 + 5 * j + 2) (σ (16 + 5 * j + 2) ^^^ 1 <<< (y &&& 31))) P
      exact IW_c hW (upd_o (by omega)) (upd_o (by omega)) (fun k d hk h1 h2 => upd_o (by omega)) (fun k hk => upd_o (by omega)) (fun i hi ho => Or.inl (by rw [upd_o (by omega)] at ho ⊢; exact ⟨ho, rfl⟩))
theorem IW_sets {σ : Nat → Int32} {P : Nat} (hW : IW σ P) (x y : Int32) : IW (mSets σ x y).2 P := by
  unfold mSets
  split
  · exact hW
  · rename_i h1
    obtain ⟨j, hj, rfl⟩ := mIn_1 h1
    rw [nI_clamp (show j < 2 ^ 31 by omega)]
    repeat' split
    all_goals first | exact hW | exact IW_c hW (by simp (disch := omega) only [upd_o]) (by simp (disch := omega) only [upd_o]) (fun k d hk h1 h2 => by simp (disch := omega) only [upd_o]) (fun k hk => by simp (disch := omega) only [upd_o]) (fun j hj ho => Or.inl (by simp (disch := omega) only [upd_o] at ho ⊢; exact ⟨ho, trivial⟩))
