/-! ===== the reference: minutes ===== -/
def ML (σ : Nat → Int32) (B : Nat) : Prop := ∀ i, i < 8 → ∃ l, l ≤ B ∧ σ (101 + 16 * i + 3) = nI l
theorem mPage3_MI {σ : Nat → Int32} {i w : Nat} (hI : MI σ) (hw : w ≤ 8) : MI (mPage3 σ i (nI w)) := MI_free (MI_free (MI_own hI hw) (by omega) (by omega)) (by omega) (by omega)
theorem mPage_MI {σ : Nat → Int32} {i : Nat} (hI : MI σ) (hi : i < 8) : MI (mPage σ i) := by
  obtain ⟨T, hT, eT, hlv⟩ := hI.2.2.1
  obtain ⟨l0, hl0, el⟩ := hlv i hi
  have hw := mPerson_or hI (T := T) (l := l0) (by omega) eT (by omega) el
  unfold mPage mPageW
  split
  · rename_i hn
    rcases hw with e | ⟨q, hq, e⟩
    · rw [e] at hn
      exact absurd hn (by unfold mNone; rw [if_pos (by decide)]; decide)
    · rw [e, nI_1, nI_clamp (show q < 2 ^ 31 by omega)]
      exact MI_free (MI_free (MI_free (MI_free (mPage3_MI hI (by omega)) (by omega) (by omega)) (by omega) (by omega)) (by omega) (by omega)) (by omega) (by omega)
  · exact mPage3_MI (w := 0) hI (by omega)
/-- paging leaves what is none of its own -/
theorem mPage_o {σ : Nat → Int32} {i q : Nat} (hI : MI σ) (hi : i < 8) (h5 : q ≠ 5) (hp : ∀ w, w < 8 → q ≠ 16 + 5 * w + 3) (hq : ∀ d, q = 101 + 16 * i + d → d ≠ 4 ∧ d ≠ 5 ∧ d ≠ 10 ∧ d ≠ 11 ∧ d ≠ 14) : mPage σ i q = σ q := by
  obtain ⟨T, hT, eT, hlv⟩ := hI.2.2.1
  obtain ⟨l0, hl0, el⟩ := hlv i hi
  have hw := mPerson_or hI (T := T) (l := l0) (by omega) eT (by omega) el
  have n4 : q ≠ 101 + 16 * i + 4 := fun z => (hq 4 z).1 rfl
  have n5 : q ≠ 101 + 16 * i + 5 := fun z => (hq 5 z).2.1 rfl
  have n10 : q ≠ 101 + 16 * i + 10 := fun z => (hq 10 z).2.2.1 rfl
  have n11 : q ≠ 101 + 16 * i + 11 := fun z => (hq 11 z).2.2.2.1 rfl
  have n14 : q ≠ 101 + 16 * i + 14 := fun z => (hq 14 z).2.2.2.2 rfl
  have e3 : ∀ o, mPage3 σ i o q = σ q := fun o => by
    unfold mPage3
    rw [upd_o n11, upd_o n5, upd_o n4]
  unfold mPage mPageW
  split
  · rename_i hn
    rcases hw with e | ⟨p, hp8, e⟩
    · rw [e] at hn
      exact absurd hn (by unfold mNone; rw [if_pos (by decide)]; decide)
    · rw [e, nI_clamp (show p < 2 ^ 31 by omega), upd_o (hp p hp8), upd_o h5, upd_o n14, upd_o n10, e3]
  · exact e3 0
theorem mMinA_MI {σ : Nat → Int32} {i : Nat} {d : Int32} (hI : MI σ) : MI (mMinA σ i d) := MI_free (MI_free hI (by omega) (by omega)) (by omega) (by omega)
theorem mHand_MI {σ : Nat → Int32} {i : Nat} (hI : MI σ) : MI (mHand σ i) := MI_free (MI_free (MI_lvl (l := 0) (mMinA_MI hI) (by omega)) (by omega) (by omega)) (by omega) (by omega)
theorem mEsc_MI {σ : Nat → Int32} {i : Nat} (hI : MI σ) (hL : ∃ l, l ≤ 60000 ∧ σ (101 + 16 * i + 3) = nI l) : MI (mEsc σ i) := by
  obtain ⟨l, hl, el⟩ := hL
  unfold mEsc
  rw [el, nI_1]
  exact MI_free (MI_free (MI_lvl (mMinA_MI hI) (by omega)) (by omega) (by omega)) (by omega) (by omega)
theorem mMinOf_cases {σ : Nat → Int32} {i : Nat} (P : (Nat → Int32) → Prop) (h1 : P (mPage (mHand σ i) i)) (h2 : P (mMinA σ i 0)) (h3 : P (mPage (mEsc σ i) i)) (h4 : P (mPage (mMinA σ i 1) i)) : P (mMinOf σ i) := by
  unfold mMinOf
  split
  · split
    · exact h1
    · split
      · split
        · split
          · exact h2
          · exact h3
        · exact h2
      · exact h1
  · exact h4
theorem mMinOf_MI {σ : Nat → Int32} {i : Nat} (hI : MI σ) (hi : i < 8) (hL : ∃ l, l ≤ 60000 ∧ σ (101 + 16 * i + 3) = nI l) : MI (mMinOf σ i) :=
  mMinOf_cases MI (mPage_MI (mHand_MI hI) hi) (mMinA_MI hI) (mPage_MI (mEsc_MI hI hL) hi) (mPage_MI (mMinA_MI hI) hi)
theorem mPage_lvl {σ : Nat → Int32} {i k : Nat} (hI : MI σ) (hi : i < 8) : mPage σ i (101 + 16 * k + 3) = σ (101 + 16 * k + 3) := mPage_o hI hi (by omega) (fun w hw => by omega) (fun d hd => by omega)
theorem mMinOf_lvl {σ : Nat → Int32} {i k : Nat} (hI : MI σ) (hi : i < 8) (hL : ∃ l, l ≤ 60000 ∧ σ (101 + 16 * i + 3) = nI l) (hk : k ≠ i) : mMinOf σ i (101 + 16 * k + 3) = σ (101 + 16 * k + 3) := by
  refine mMinOf_cases (fun τ => τ (101 + 16 * k + 3) = σ (101 + 16 * k + 3)) ?_ ?_ ?_ ?_
  · show mPage (mHand σ i) i _ = _
    rw [mPage_lvl (mHand_MI hI) hi]; unfold mHand mMinA; simp (disch := omega) only [upd_o]
  · show mMinA σ i 0 _ = _
    unfold mMinA; simp (disch := omega) only [upd_o]
  · show mPage (mEsc σ i) i _ = _
    rw [mPage_lvl (mEsc_MI hI hL) hi]; unfold mEsc mMinA; simp (disch := omega) only [upd_o]
  · show mPage (mMinA σ i 1) i _ = _
    rw [mPage_lvl (mMinA_MI hI) hi]; unfold mMinA; simp (disch := omega) only [upd_o]
theorem mMinOf_lvi {σ : Nat → Int32} {i B : Nat} (hI : MI σ) (hi : i < 8) (hB : B ≤ 60000) (hL : ∃ l, l ≤ B ∧ σ (101 + 16 * i + 3) = nI l) : ∃ l, l ≤ B + 1 ∧ mMinOf σ i (101 + 16 * i + 3) = nI l := by
  obtain ⟨l, hl, el⟩ := hL
  have hL' : ∃ l, l ≤ 60000 ∧ σ (101 + 16 * i + 3) = nI l := ⟨l, by omega, el⟩
  have e0 : mPage (mHand σ i) i (101 + 16 * i + 3) = nI 0 := by
    rw [mPage_lvl (mHand_MI hI) hi]
    unfold mHand
    rw [upd_o (by omega), upd_o (by omega), upd_r]
    exact kn_0
  have e1 : ∀ d, mMinA σ i d (101 + 16 * i + 3) = nI l := fun d => by
    unfold mMinA
    rw [upd_o (by omega), upd_o (by omega), el]
  have e2 : mPage (mEsc σ i) i (101 + 16 * i + 3) = nI (l + 1) := by
    rw [mPage_lvl (mEsc_MI hI hL') hi]
    unfold mEsc
    rw [upd_o (by omega), upd_o (by omega), upd_r, el]
    exact nI_1 l
  have e3 : mPage (mMinA σ i 1) i (101 + 16 * i + 3) = nI l := by
    rw [mPage_lvl (mMinA_MI hI) hi]
    exact e1 1
  exact mMinOf_cases (fun τ => ∃ l, l ≤ B + 1 ∧ τ (101 + 16 * i + 3) = nI l) ⟨0, by omega, e0⟩ ⟨l, by omega, e1 0⟩ ⟨l + 1, by omega, e2⟩ ⟨l, by omega, e3⟩
theorem mPage_t {σ : Nat → Int32} {i q : Nat} (hI : MI σ) (hi : i < 8) (hq : q < 16) (h5 : q ≠ 5) : mPage σ i q = σ q := mPage_o hI hi h5 (fun w hw => by omega) (fun d hd => by omega)
theorem mMinOf_2 {σ : Nat → Int32} {i : Nat} (hI : MI σ) (hi : i < 8) (hL : ∃ l, l ≤ 60000 ∧ σ (101 + 16 * i + 3) = nI l) : mMinOf σ i 2 = σ 2 := by
  refine mMinOf_cases (fun τ => τ 2 = σ 2) ?_ ?_ ?_ ?_
  · show mPage (mHand σ i) i _ = _
    rw [mPage_t (mHand_MI hI) hi (by omega) (by omega)]; unfold mHand mMinA; simp (disch := omega) only [upd_o]
  · show mMinA σ i 0 _ = _
    unfold mMinA; simp (disch := omega) only [upd_o]
  · show mPage (mEsc σ i) i _ = _
    rw [mPage_t (mEsc_MI hI hL) hi (by omega) (by omega)]; unfold mEsc mMinA; simp (disch := omega) only [upd_o]
  · show mPage (mMinA σ i 1) i _ = _
    rw [mPage_t (mMinA_MI hI) hi (by omega) (by omega)]; unfold mMinA; simp (disch := omega) only [upd_o]
/-- the loop over the incidents: what holds behind it -/
theorem mMinLp_ok {B : Nat} (hB : B ≤ 60000) : ∀ (r i : Nat) (τ : Nat → Int32), i + r = 8 → MI τ → (∀ k, k < 8 → ∃ l, l ≤ (if k < i then B + 1 else B) ∧ τ (101 + 16 * k + 3) = nI l) → MI (mMinLp r i τ) ∧ ML (mMinLp r i τ) (B + 1) ∧ mMinLp r i τ 2 = τ 2
  | 0, i, τ, hi, hI, hL => by
    refine ⟨hI, fun k hk => ?_, rfl⟩
    obtain ⟨l, h1, h2⟩ := hL k hk
    rw [if_pos (by omega)] at h1
    exact ⟨l, h1, h2⟩
  | r + 1, i, τ, hi, hI, hL => by
    have hLi : ∃ l, l ≤ B ∧ τ (101 + 16 * i + 3) = nI l := by
      obtain ⟨l, h1, h2⟩ := hL i (by omega)
      rw [if_neg (by omega)] at h1
      exact ⟨l, h1, h2⟩
    have hLi' : ∃ l, l ≤ 60000 ∧ τ (101 + 16 * i + 3) = nI l := by
      obtain ⟨l, h1, h2⟩ := hLi
      exact ⟨l, by omega, h2⟩
    unfold mMinLp
    split
    · refine mMinLp_ok hB r (i + 1) τ (by omega) hI (fun k hk => ?_)
      obtain ⟨l, h1, h2⟩ := hL k hk
      refine ⟨l, ?_, h2⟩
      split at h1 <;> split <;> omega
    · obtain ⟨a, b, c⟩ := mMinLp_ok hB r (i + 1) (mMinOf τ i) (by omega) (mMinOf_MI hI (by omega) hLi') (fun k hk => by
        by_cases hki : k = i
        · subst hki
          obtain ⟨l, h1, h2⟩ := mMinOf_lvi hI hk hB hLi
          exact ⟨l, by rw [if_pos (by omega)]; exact h1, h2⟩
        · rw [mMinOf_lvl hI (by omega) hLi' hki]
          obtain ⟨l, h1, h2⟩ := hL k hk
          refine ⟨l, ?_, h2⟩
          split at h1 <;> split <;> omega)
      exact ⟨a, b, by rw [c, mMinOf_2 hI (by omega) hLi']⟩
theorem MI_time {σ : Nat → Int32} {T : Nat} (hI : MI σ) (hT : T ≤ 31000) : MI (upd σ 2 (nI T)) := by
  obtain ⟨⟨P, p1, p2⟩, ⟨R, r1, r2, r3⟩, ⟨T0, t1, t2, t3⟩, ⟨O, o1, o2⟩, a, b, c, d⟩ := hI
  refine ⟨⟨P, p1, by rw [upd_o (by omega)]; exact p2⟩, ⟨R, r1, by rw [upd_o (by omega)]; exact r2, fun k hk => ?_⟩, ⟨T, hT, upd_r, fun i hi => ?_⟩, ⟨O, o1, by rw [upd_o (by omega)]; exact o2⟩, fun k hk => ?_, fun k j2 hk hj => ?_, fun k hk => ?_, fun i hi => ?_⟩
  · rw [upd_o (by omega)]; exact r3 k hk
  · rw [upd_o (by omega)]; exact t3 i hi
  · rw [upd_o (by omega)]; exact a k hk
  · rw [upd_o (by omega)]; exact b k j2 hk hj
  · rw [upd_o (by omega)]; exact c k hk
  · rw [upd_o (by omega)]; exact d i hi
/-- a minute: time T -> T + 1, levels up to B -> B + 1 -/
def MT (σ : Nat → Int32) (T B : Nat) : Prop := MI σ ∧ σ 2 = nI T ∧ ML σ B
theorem mMinute_MT {σ : Nat → Int32} {T B : Nat} (h : MT σ T B) (hT : T < 31000) (hB : B ≤ 60000) : MT (mMinute σ) (T + 1) (B + 1) := by
  obtain ⟨hI, e2, hL⟩ := h
  obtain ⟨a, b, c⟩ := mMinLp_ok hB 8 0 (upd σ 2 (nI (T + 1))) rfl (MI_time hI (by omega)) (fun k hk => by
    obtain ⟨l, h1, h2⟩ := hL k hk
    exact ⟨l, by rw [if_neg (by omega)]; exact h1, by rw [upd_o (by omega)]; exact h2⟩)
  unfold mMinute
  rw [e2, nI_1]
  exact ⟨a, by rw [c, upd_r], b⟩
def mMins : Nat → (Nat → Int32) → Nat → Int32
  | 0, σ => σ
  | r + 1, σ => mMins r (mMinute σ)
def mPass (σ : Nat → Int32) (x : Int32) : Int32 × (Nat → Int32) := if mIn x 1 600 = 0 then (-1, σ) else if 30000 < σ 2 + x then (-3, σ) else (mMins x.toNatClampNeg σ 5 - σ 5, mMins x.toNatClampNeg σ)
