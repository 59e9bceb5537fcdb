/-! ===== the reference: command ===== -/
theorem mRdLp_ok {N : Nat} : ∀ (r i a : Nat) (z : Int32) (w : mV), w 0 7 = nI (a + i) → ∃ j, i ≤ j ∧ j ≤ i + r ∧ (mRdLp N r i (a + i) z w).1 = j ∧ (mRdLp N r i (a + i) z w).2.2 0 7 = nI (a + j) ∧ (∀ q, q ≠ 0 → (mRdLp N r i (a + i) z w).2.2 q = w q) ∧ ∀ f, f ≠ 7 → (mRdLp N r i (a + i) z w).2.2 0 f = w 0 f
  | 0, i, a, z, w, h => ⟨i, Nat.le_refl i, Nat.le_refl i, rfl, h, fun _ _ => rfl, fun _ _ => rfl⟩
  | r + 1, i, a, z, w, h => by
    by_cases hd : mIn (mHere w (a + i) N) 48 57 = 0
    · rw [mRdLp, if_pos hd]
      exact ⟨i, Nat.le_refl i, by omega, rfl, h, fun _ _ => rfl, fun _ _ => rfl⟩
    · rw [mRdLp, if_neg hd]
      obtain ⟨j, h1, h2, h3, h4, h5, h6⟩ := mRdLp_ok (N := N) r (i + 1) a (10 * z + mHere w (a + i) N - 48) (u2 w 0 7 (nI (a + (i + 1)))) (by rw [u2_r, upd_r])
      refine ⟨j, by omega, by omega, h3, h4, fun q hq => ?_, fun f hf => ?_⟩
      · rw [show a + i + 1 = a + (i + 1) by omega, h5 q hq, u2_o hq]
      · rw [show a + i + 1 = a + (i + 1) by omega, h6 f hf, u2_r, upd_o hf]
theorem mMust_o {v : mV} {a N q : Nat} {x : Int32} (h : q ≠ 0) : mMust v a N x q = v q := by rw [mMust, u2_o h, u2_o h]
theorem mMust_f {v : mV} {a N f : Nat} {x : Int32} (h : f ≠ 7) (h8 : f ≠ 8) : mMust v a N x 0 f = v 0 f := by rw [mMust, u2_r, upd_o h, u2_r, upd_o h8]
theorem mRd_ok {v : mV} {a N : Nat} {x : Int32} : ∃ j, j ≤ 3 ∧ (mRd v a N x).1 = j ∧ mRdE (mRd v a N x) 0 7 = nI (a + 1 + j) ∧ (∀ q, q ≠ 0 → mRdE (mRd v a N x) q = v q) ∧ ∀ f, f ≠ 7 → f ≠ 8 → mRdE (mRd v a N x) 0 f = v 0 f := by
  obtain ⟨j, h1, h2, h3, h4, h5, h6⟩ := mRdLp_ok (N := N) 3 0 (a + 1) 0 (mMust v a N x) (by rw [mMust_7])
  refine ⟨j, by omega, h3, ?_, fun q hq => ?_, fun f hf h8 => ?_⟩
  · rw [mRdE, u2_r, upd_o (by omega)]; exact h4
  · rw [mRdE, u2_o hq]; exact (h5 q hq).trans (mMust_o hq)
  · rw [mRdE, u2_r, upd_o h8]; exact (h6 f hf).trans (mMust_f hf h8)
def mForm (x : Int32) : Int32 := if x = 97 then 1 else if x = 107 then 1 else if x = 114 then 1 else if x = 111 then 1 else if x = 116 then 1 else 0
def mCnt (x : Int32) : Nat := if x = 97 then 2 else if x = 111 then 3 else 1
def mSep (x : Int32) (i : Nat) : Int32 := if i = 0 then x else 44
def mCmLp (N : Nat) (x : Int32) : Nat → Nat → Nat → mV → Nat × mV
  | 0, _, a, w => (a, w)
  | r + 1, i, a, w => mCmLp N x r (i + 1) (a + 1 + (mRd w a N (mSep x i)).1) (u2 (mRdE (mRd w a N (mSep x i))) 6 i (mRd w a N (mSep x i)).2.1)
def mOp (σ : Nat → Int32) (x : Int32) (ν : Nat → Int32) : Int32 × (Nat → Int32) := if x = 97 then mAlerts σ (ν 0) (ν 1) else if x = 107 then mAcks σ (ν 0) else if x = 111 then mOverrides σ (ν 0) (ν 1) (ν 2) else if x = 114 then mResolves σ (ν 0) else mPass σ (ν 0)
def mCmE (w : mV) (σ : Nat → Int32) (x : Int32) : Int32 × mV := if w 0 8 = 0 then (0, w) else ((mOp σ x (w 6)).1, sv w (mOp σ x (w 6)).2)
def mCmd (v : mV) (σ : Nat → Int32) (a N : Nat) : Int32 × mV := let x := mHere v a N; let t := mCmLp N x (mCnt x) 0 a (u2 (sv v σ) 0 8 (mForm x)); mCmE (mMust t.2 t.1 N 59) σ x
