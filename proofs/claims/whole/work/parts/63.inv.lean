/-! ===== what holds of the reference's state between two calls ===== -/
def IX (σ : Nat → Int32) (T i : Nat) : Prop := (∃ f, f ≤ T ∧ σ (101 + 16 * i + 7) = nI f) ∧ (σ (101 + 16 * i + 5) = 0 ∨ σ (101 + 16 * i + 5) = 1) ∧ (0 < σ (101 + 16 * i + 4) → σ (101 + 16 * i + 14) = 1 ∧ ¬ σ (101 + 16 * i + 11) < 0 ∧ ∃ p, p ≤ T ∧ σ (101 + 16 * i + 10) = nI p)
def IQ (σ : Nat → Int32) (T : Nat) : Prop := ∀ i, i < 8 → σ (101 + 16 * i) = 1 → IX σ T i
def IE (σ : Nat → Int32) : Prop := ∀ k, k < 8 → ∃ e, e < 1048576 ∧ σ (16 + 5 * k + 2) = nI e
def IK (σ : Nat → Int32) (B : Nat) : Prop := ∃ a w, σ 12 = nI a ∧ a ≤ B ∧ σ 11 = nI w ∧ w ≤ 30000 * a
def IU (σ : Nat → Int32) (U : Nat) : Prop := ∃ u, u ≤ U ∧ σ 9 = nI u
def IA (σ : Nat → Int32) (U : Nat) : Prop := ∃ u, u ≤ U ∧ mAll σ = nI u
def ID (σ : Nat → Int32) : Prop := ∀ k, k < 3 → ∀ m, m ≤ 5 → σ (56 + 9 * k + 3) = nI m → ∀ a b, a < m → b < m → σ (56 + 9 * k + (4 + a)) = σ (56 + 9 * k + (4 + b)) → a = b
def IN (σ : Nat → Int32) (T B : Nat) : Prop := (T ≤ 30000 ∧ MT σ T T ∧ IB σ ∧ IQ σ T) ∧ IE σ ∧ IK σ B ∧ IU σ (8 * T) ∧ IA σ (8 * T) ∧ ID σ
theorem IQ_IO {σ : Nat → Int32} {T : Nat} (h : IQ σ T) : IO σ := fun i hi ho hp => ⟨((h i hi ho).2.2 hp).1, ((h i hi ho).2.2 hp).2.1⟩
/-- what a minute of one incident leaves -/
def K1 (σ τ : Nat → Int32) (i : Nat) : Prop := (∀ q, q < 101 → q ≠ 5 → q ≠ 7 → q ≠ 8 → q ≠ 9 → (∀ w, w < 8 → q ≠ 16 + 5 * w + 3) → τ q = σ q) ∧ (∀ q, 101 ≤ q → (q < 101 + 16 * i ∨ 101 + 16 * i + 16 ≤ q) → τ q = σ q) ∧ τ (101 + 16 * i) = σ (101 + 16 * i) ∧ τ (101 + 16 * i + 7) = σ (101 + 16 * i + 7)
theorem mPage_K1 {σ ρ : Nat → Int32} {i : Nat} (hI : MI ρ) (hi : i < 8) (h : K1 σ ρ i) : K1 σ (mPage ρ i) i :=
  ⟨fun q h1 h5 h7 h8 h9 hw => (mPage_o hI hi h5 (fun w h => hw w h) (fun d hd => by omega)).trans (h.1 q h1 h5 h7 h8 h9 hw), fun q h1 h2 => (mPage_o hI hi (by omega) (fun w hw => by omega) (fun d hd => by omega)).trans (h.2.1 q h1 h2),
   (mPage_o hI hi (by omega) (fun w hw => by omega) (fun d hd => by omega)).trans h.2.2.1, (mPage_o hI hi (by omega) (fun w hw => by omega) (fun d hd => by omega)).trans h.2.2.2⟩
theorem mMinA_K1 {σ : Nat → Int32} {i : Nat} {d : Int32} : K1 σ (mMinA σ i d) i := by
  unfold mMinA
  refine ⟨fun q h1 h5 h7 h8 h9 hw => ?_, fun q h1 h2 => ?_, ?_, ?_⟩ <;> rw [upd_o (by omega), upd_o (by omega)]
theorem mHand_K1 {σ : Nat → Int32} {i : Nat} : K1 σ (mHand σ i) i := by
  unfold mHand mMinA
  refine ⟨fun q h1 h5 h7 h8 h9 hw => ?_, fun q h1 h2 => ?_, ?_, ?_⟩ <;> simp (disch := omega) only [upd_o]
theorem mEsc_K1 {σ : Nat → Int32} {i : Nat} : K1 σ (mEsc σ i) i := by
  unfold mEsc mMinA
  refine ⟨fun q h1 h5 h7 h8 h9 hw => ?_, fun q h1 h2 => ?_, ?_, ?_⟩ <;> simp (disch := omega) only [upd_o]
theorem mPage_X {ρ : Nat → Int32} {i T : Nat} (hI : MI ρ) (hi : i < 8) (h2 : ρ 2 = nI T) : mPage ρ i (101 + 16 * i + 5) = 0 ∧ (0 < mPage ρ i (101 + 16 * i + 4) → mPage ρ i (101 + 16 * i + 14) = 1 ∧ ¬ mPage ρ i (101 + 16 * i + 11) < 0 ∧ mPage ρ i (101 + 16 * i + 10) = nI T) := by
  obtain ⟨T0, hT, eT, hlv⟩ := hI.2.2.1
  obtain ⟨l0, hl0, el⟩ := hlv i hi
  have hw := mPerson_or hI (T := T0) (l := l0) (by omega) eT (by omega) el
  have hn : mPerson ρ (ρ 2) (ρ (101 + 16 * i + 3)) = -1 ∨ ¬ mRegion ρ (ρ 2) < 0 := by
    by_cases hr : mRegion ρ (ρ 2) < 0
    · left; unfold mPerson; rw [if_pos hr]
    · exact Or.inr hr
  unfold mPage mPageW
  by_cases h0 : mNone ρ i (mPerson ρ (ρ 2) (ρ (101 + 16 * i + 3))) = 0
  · rw [if_pos h0]
    rcases hw with e | ⟨p, hp, e⟩
    · rw [e] at h0
      exact absurd h0 (by unfold mNone; rw [if_pos (by decide)]; decide)
    · have hr : ¬ mRegion ρ (ρ 2) < 0 := hn.resolve_left (fun z => by rw [e] at z; exact nI_nneg (j := p) (by omega) (by rw [z]; decide))
      rw [e, nI_clamp (show p < 2 ^ 31 by omega)]
      unfold mPage3
      refine ⟨?_, fun _ => ⟨?_, ?_, ?_⟩⟩
      · simp (disch := omega) only [upd_o, upd_r]
      · simp (disch := omega) only [upd_o, upd_r]
      · simp (disch := omega) only [upd_o, upd_r]; exact hr
      · simp (disch := omega) only [upd_o, upd_r]; exact h2
  · rw [if_neg h0]
    unfold mPage3
    refine ⟨?_, fun hp => ?_⟩
    · simp (disch := omega) only [upd_o, upd_r]
    · simp (disch := omega) only [upd_o, upd_r] at hp
      exact absurd hp (by decide)
theorem IX_page {σ ρ : Nat → Int32} {i T : Nat} (hI : MI ρ) (hi : i < 8) (h2 : ρ 2 = nI T) (hf : ∃ f, f ≤ T ∧ ρ (101 + 16 * i + 7) = nI f) : IX (mPage ρ i) T i := by
  obtain ⟨x1, x2⟩ := mPage_X hI hi h2
  obtain ⟨f, f1, f2⟩ := hf
  refine ⟨⟨f, f1, (mPage_o hI hi (by omega) (fun w hw => by omega) (fun d hd => by omega)).trans f2⟩, Or.inl x1, fun hp => ?_⟩
  obtain ⟨y1, y2, y3⟩ := x2 hp
  exact ⟨y1, y2, T, Nat.le_refl T, y3⟩
/-- one incident's minute -/
theorem mMinOf_K {σ : Nat → Int32} {i T U : Nat} (hI : MI σ) (hi : i < 8) (h2 : σ 2 = nI T) (hL : ∃ l, l ≤ 60000 ∧ σ (101 + 16 * i + 3) = nI l) (hX : IX σ T i) (hU : IU σ U) (ho : σ (101 + 16 * i) = 1) : K1 σ (mMinOf σ i) i ∧ IX (mMinOf σ i) T i ∧ IU (mMinOf σ i) (U + 1) := by
  obtain ⟨u, u1, u2⟩ := hU
  have a1 : mHand σ i 2 = nI T := (mHand_K1.1 2 (by omega) (by omega) (by omega) (by omega) (by omega) (by omega)).trans h2
  have a2 : mEsc σ i 2 = nI T := (mEsc_K1.1 2 (by omega) (by omega) (by omega) (by omega) (by omega) (by omega)).trans h2
  have a3 : ∀ d, mMinA σ i d 2 = nI T := fun d => (mMinA_K1.1 2 (by omega) (by omega) (by omega) (by omega) (by omega) (by omega)).trans h2
  obtain ⟨f, f1, f2⟩ := hX.1
  refine mMinOf_cases (fun τ => K1 σ τ i ∧ IX τ T i ∧ IU τ (U + 1)) ?_ ?_ ?_ ?_
  · refine ⟨mPage_K1 (mHand_MI hI) hi mHand_K1, IX_page (σ := σ) (mHand_MI hI) hi a1 ⟨f, f1, mHand_K1.2.2.2.trans f2⟩, u, by omega, ?_⟩
    rw [mPage_t (mHand_MI hI) hi (by omega) (by omega)]
    unfold mHand mMinA
    simp (disch := omega) only [upd_o, upd_r, Int32.add_zero]
    exact u2
  · refine ⟨mMinA_K1, ⟨⟨f, f1, mMinA_K1.2.2.2.trans f2⟩, ?_, fun hp => ?_⟩, u, by omega, ?_⟩
    · unfold mMinA
      simp (disch := omega) only [upd_o]
      exact hX.2.1
    · unfold mMinA at hp ⊢
      simp (disch := omega) only [upd_o] at hp ⊢
      exact hX.2.2 hp
    · unfold mMinA
      simp (disch := omega) only [upd_r, Int32.add_zero]
      exact u2
  · refine ⟨mPage_K1 (mEsc_MI hI hL) hi mEsc_K1, IX_page (σ := σ) (mEsc_MI hI hL) hi a2 ⟨f, f1, mEsc_K1.2.2.2.trans f2⟩, u, by omega, ?_⟩
    rw [mPage_t (mEsc_MI hI hL) hi (by omega) (by omega)]
    unfold mEsc mMinA
    simp (disch := omega) only [upd_o, upd_r, Int32.add_zero]
    exact u2
  · refine ⟨mPage_K1 (mMinA_MI hI) hi mMinA_K1, IX_page (σ := σ) (mMinA_MI hI) hi (a3 1) ⟨f, f1, mMinA_K1.2.2.2.trans f2⟩, u + 1, by omega, ?_⟩
    rw [mPage_t (mMinA_MI hI) hi (by omega) (by omega)]
    unfold mMinA
    simp (disch := omega) only [upd_r]
    rw [u2, nI_1]
theorem IX_c {σ τ : Nat → Int32} {T i : Nat} (h : IX σ T i) (hs : ∀ d, d < 16 → τ (101 + 16 * i + d) = σ (101 + 16 * i + d)) : IX τ T i := by
  unfold IX
  rw [hs 7 (by omega), hs 5 (by omega), hs 4 (by omega), hs 14 (by omega), hs 11 (by omega), hs 10 (by omega)]
  exact h
theorem IX_T {σ : Nat → Int32} {T T' i : Nat} (h : IX σ T i) (hT : T ≤ T') : IX σ T' i := by
  obtain ⟨⟨f, f1, f2⟩, h2, h3⟩ := h
  refine ⟨⟨f, by omega, f2⟩, h2, fun hp => ?_⟩
  obtain ⟨y1, y2, p, y3, y4⟩ := h3 hp
  exact ⟨y1, y2, p, by omega, y4⟩
/-- how many of the incidents from i on are open -/
def mOpC (σ : Nat → Int32) : Nat → Nat → Int32
  | 0, _ => 0
  | r + 1, i => (if σ (101 + 16 * i) = 1 then 1 else 0) + mOpC σ r (i + 1)
theorem mOpC_c {σ τ : Nat → Int32} (h : ∀ k, k < 8 → τ (101 + 16 * k) = σ (101 + 16 * k)) : ∀ r i, i + r ≤ 8 → mOpC τ r i = mOpC σ r i
  | 0, _, _ => rfl
  | r + 1, i, hi => by rw [mOpC, mOpC, h i (by omega), mOpC_c h r (i + 1) (by omega)]
theorem mOpC_le (σ : Nat → Int32) : ∀ r i, ∃ n, n ≤ r ∧ mOpC σ r i = nI n
  | 0, _ => ⟨0, Nat.le_refl 0, kn_0⟩
  | r + 1, i => by
    obtain ⟨n, h1, h2⟩ := mOpC_le σ r (i + 1)
    rw [mOpC, h2]
    split
    · exact ⟨1 + n, by omega, by rw [show (1 : Int32) = nI 1 from kn_1, nI_add]⟩
    · exact ⟨n, by omega, Int32.zero_add _⟩
theorem mAllN_tr {σ : Nat → Int32} : ∀ (r i : Nat) (a c : Int32), cntLp (mAllN σ) r i (a + c) = cntLp (mAllN σ) r i a + c
  | 0, _, _, _ => rfl
  | r + 1, i, a, c => by
    rw [cntLp, cntLp, show mAllN σ i (a + c) = mAllN σ i a + c by unfold mAllN; rw [Int32.add_assoc, Int32.add_comm c, ← Int32.add_assoc], mAllN_tr r (i + 1)]
theorem mAll_minLp {σ : Nat → Int32} : ∀ (r i : Nat) (a : Int32), i + r ≤ 8 → cntLp (mAllN (upd σ 2 (σ 2 + 1))) r i a = cntLp (mAllN σ) r i a + mOpC σ r i
  | 0, _, a, _ => (Int32.add_zero a).symm
  | r + 1, i, a, hi => by
    rw [cntLp, cntLp, mAll_minLp r (i + 1) _ (by omega), mOpC]
    have hz : mAllN (upd σ 2 (σ 2 + 1)) i a = mAllN σ i a + (if σ (101 + 16 * i) = 1 then 1 else 0) := by
      unfold mAllN
      rw [mInc_nI (show i < 8 by omega), mInc_nI (show i < 8 by omega), upd_o (by omega), upd_r, upd_o (by omega)]
      by_cases ho : σ (101 + 16 * i) = 1
      · rw [if_pos ho, if_neg (by decide), if_neg (by decide), Int32.sub_eq_add_neg, Int32.sub_eq_add_neg, Int32.add_assoc (σ 2), Int32.add_comm 1, ← Int32.add_assoc, ← Int32.add_assoc, ← Int32.add_assoc]
      · rw [if_neg ho, if_pos rfl, if_pos rfl, Int32.add_zero, Int32.add_zero]
    rw [hz, mAllN_tr, Int32.add_assoc]
theorem mAll_time {σ : Nat → Int32} : mAll (upd σ 2 (σ 2 + 1)) = mAll σ + mOpC σ 8 0 := by
  unfold mAll
  rw [upd_o (by omega)]
  exact mAll_minLp 8 0 _ (by omega)
