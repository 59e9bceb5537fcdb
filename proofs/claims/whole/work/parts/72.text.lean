/-! ===== class and reference: reading texts ===== -/
def TX (v : mV) (k : Nat) (u : Nat → Int32) (N : Nat) : Prop := N ≤ 80 ∧ v k 2 = nI N ∧ ∀ j, j < N → v (k + 1) j = u j
/-- the sign at a place, as the reference reads it -/
def tHr (u : Nat → Int32) (N a : Nat) : Int32 := if a < N then u a else -1
theorem mHere_t {w : mV} {a N : Nat} : mHere w a N = tHr (w 5) N a := rfl
theorem sign_in {v : mV} {k N a : Nat} {u : Nat → Int32} (hT : TX v k u N) (ha : a < N) : scSign v k (nI a) = tHr u N a := by
  obtain ⟨h80, h2, hu⟩ := hT
  unfold scSign tHr
  rw [if_neg (nI_nneg (by omega)), h2, if_pos ((na_lt rfl rfl (by omega) (by omega)).mpr ha), if_pos ((na_lt rfl kn_80 (by omega) (by omega)).mpr (by omega)), nI_clamp (show a < 2 ^ 31 by omega), if_pos ha]
  exact hu a ha
theorem sign_out {v : mV} {k N a : Nat} {u : Nat → Int32} (hT : TX v k u N) (ha : ¬ a < N) (h9 : a < 10000) : scSign v k (nI a) = 0 ∧ tHr u N a = -1 := by
  obtain ⟨h80, h2, hu⟩ := hT
  unfold scSign tHr
  rw [if_neg (nI_nneg (by omega)), h2, if_neg (by rw [na_lt rfl rfl (by omega) (by omega)]; exact ha), if_neg ha]
  exact ⟨rfl, rfl⟩
theorem sign_eq {v : mV} {k N a : Nat} {u : Nat → Int32} (hT : TX v k u N) (h9 : a < 10000) {c : Int32} (c0 : c ≠ 0) (c1 : c ≠ -1) : scSign v k (nI a) = c ↔ tHr u N a = c := by
  by_cases ha : a < N
  · rw [sign_in hT ha]
  · obtain ⟨e1, e2⟩ := sign_out hT ha h9
    rw [e1, e2]
    exact ⟨fun z => absurd z.symm c0, fun z => absurd z.symm c1⟩
theorem digit_eq {v : mV} {k N a : Nat} {u : Nat → Int32} (hT : TX v k u N) (h9 : a < 10000) : scDigit (scSign v k (nI a)) = mIn (tHr u N a) 48 57 := by
  by_cases ha : a < N
  · rw [sign_in hT ha]; rfl
  · obtain ⟨e1, e2⟩ := sign_out hT ha h9
    rw [e1, e2]; decide
def pDig (u : Nat → Int32) (N : Nat) : Nat → Nat → Int32 → Nat × Int32
  | 0, _, z => (0, z)
  | r + 1, a, z => if mIn (tHr u N a) 48 57 = 0 then (0, z) else ((pDig u N r (a + 1) (10 * z + tHr u N a - 48)).1 + 1, (pDig u N r (a + 1) (10 * z + tHr u N a - 48)).2)
theorem pDig_le (u : Nat → Int32) (N : Nat) : ∀ r a z, (pDig u N r a z).1 ≤ r
  | 0, _, _ => Nat.le_refl 0
  | r + 1, a, z => by
    unfold pDig
    split
    · omega
    · have := pDig_le u N r (a + 1) (10 * z + tHr u N a - 48)
      show _ + 1 ≤ r + 1
      omega
theorem scDig_p {v : mV} {k N : Nat} {u : Nat → Int32} (hT : TX v k u N) : ∀ (r a : Nat) (z : Int32), a + r < 10000 → scDig v k r a z = (a + (pDig u N r a z).1, (pDig u N r a z).2)
  | 0, a, z, _ => rfl
  | r + 1, a, z, h => by
    unfold scDig pDig
    rw [digit_eq hT (by omega)]
    by_cases hd : mIn (tHr u N a) 48 57 = 0
    · rw [if_pos hd, if_pos hd]; rfl
    · have ha : a < N := by
        by_cases ha : a < N
        · exact ha
        · exact absurd (by rw [(sign_out hT ha (by omega)).2]; decide) hd
      rw [if_neg hd, if_neg hd, sign_in hT ha, show z * 10 + (tHr u N a - 48) = 10 * z + tHr u N a - 48 by rw [Int32.mul_comm, Int32.sub_eq_add_neg, Int32.sub_eq_add_neg, Int32.add_assoc], scDig_p hT r (a + 1) _ (by omega)]
      show (a + 1 + _, _) = (a + (_ + 1), _)
      rw [Nat.add_right_comm]
      rfl
theorem mRdLp_p {N : Nat} {u : Nat → Int32} : ∀ (r i a : Nat) (z : Int32) (w : mV), w 5 = u → (mRdLp N r i a z w).1 = i + (pDig u N r a z).1 ∧ (mRdLp N r i a z w).2.1 = (pDig u N r a z).2
  | 0, i, a, z, w, _ => ⟨rfl, rfl⟩
  | r + 1, i, a, z, w, hw => by
    unfold mRdLp pDig
    rw [mHere_t, hw]
    by_cases hd : mIn (tHr u N a) 48 57 = 0
    · rw [if_pos hd, if_pos hd]; exact ⟨rfl, rfl⟩
    · rw [if_neg hd, if_neg hd]
      obtain ⟨h1, h2⟩ := mRdLp_p (N := N) (u := u) r (i + 1) (a + 1) (10 * z + tHr u N a - 48) (u2 w 0 7 (nI (a + 1))) (by rw [u2_o (by omega)]; exact hw)
      exact ⟨by rw [h1]; show _ = i + (_ + 1); omega, h2⟩
theorem mRdLp_8 {N : Nat} : ∀ (r i a : Nat) (z : Int32) (w : mV), (mRdLp N r i a z w).2.2 0 8 = w 0 8
  | 0, _, _, _, _ => rfl
  | r + 1, i, a, z, w => by
    unfold mRdLp
    split
    · rfl
    · rw [mRdLp_8 r (i + 1) (a + 1), u2_r, upd_o (by omega)]
/-- what reading a number does -/
theorem mRd_p {w : mV} {a N : Nat} {x : Int32} {u : Nat → Int32} (hw : w 5 = u) : (mRd w a N x).1 = (pDig u N 3 (a + 1) 0).1 ∧ (mRd w a N x).2.1 = (pDig u N 3 (a + 1) 0).2 ∧ mRdE (mRd w a N x) 0 8 = (if w 0 8 = 0 then 0 else if tHr u N a = x then (if 0 < (pDig u N 3 (a + 1) 0).1 then 1 else 0) else 0) := by
  obtain ⟨h1, h2⟩ := mRdLp_p (N := N) (u := u) 3 0 (a + 1) 0 (mMust w a N x) (by rw [mMust_o (by omega)]; exact hw)
  have hle := pDig_le u N 3 (a + 1) 0
  have e1 : (mRd w a N x).1 = (pDig u N 3 (a + 1) 0).1 := by unfold mRd; rw [h1, Nat.zero_add]
  refine ⟨e1, h2, ?_⟩
  unfold mRdE
  rw [u2_r, upd_r, e1]
  have e8 : (mRd w a N x).2.2 0 8 = (if w 0 8 = 0 then 0 else if tHr u N a = x then 1 else 0) := by
    unfold mRd
    rw [mRdLp_8]
    unfold mMust
    rw [u2_r, upd_o (by omega), u2_r, upd_r, mHere_t, hw]
  rw [e8]
  by_cases h0 : w 0 8 = 0
  · rw [if_pos h0, if_pos rfl, if_pos h0]
  · rw [if_neg h0, if_neg h0]
    by_cases hx : tHr u N a = x
    · rw [if_pos hx, if_neg (show ¬ (1 : Int32) = 0 by decide), if_pos hx]
      by_cases hc : 0 < (pDig u N 3 (a + 1) 0).1
      · rw [if_pos hc, if_pos ((na_lt kn_0 rfl (by omega) (by omega)).mpr hc)]
      · rw [if_neg hc, if_neg (fun z => hc ((na_lt kn_0 rfl (by omega) (by omega)).mp z))]
    · rw [if_neg hx, if_pos rfl, if_neg hx]
/-- a form that is lost stays lost -/
theorem mCmLp_8 {N : Nat} {x : Int32} : ∀ (r i a : Nat) (w : mV), w 0 8 = 0 → (mCmLp N x r i a w).2 0 8 = 0
  | 0, _, _, _, h => h
  | r + 1, i, a, w, h => by
    unfold mCmLp
    refine mCmLp_8 r (i + 1) _ _ ?_
    rw [u2_o (by omega), (mRd_p (u := w 5) rfl).2.2, if_pos h]
theorem mMust_8 {w : mV} {a N : Nat} {x : Int32} : mMust w a N x 0 8 = if w 0 8 = 0 then 0 else if mHere w a N = x then 1 else 0 := by
  unfold mMust
  rw [u2_r, upd_o (by omega), u2_r, upd_r]
theorem scCmdLp_m1 {k : Nat} {w : Int32} : ∀ (r i : Nat) (v : mV), scCmdLp k w r i (-1) v = (-1, v)
  | 0, _, _ => rfl
  | r + 1, i, v => by rw [scCmdLp, if_pos rfl]
/-- the end of a command as the reference sees it -/
def mEnd (N : Nat) (x : Int32) (r i a : Nat) (w : mV) : mV := mMust (mCmLp N x r i a w).2 (mCmLp N x r i a w).1 N 59
theorem mEnd_0 {N : Nat} {x : Int32} {r i a : Nat} {w : mV} (h : w 0 8 = 0) : mEnd N x r i a w 0 8 = 0 := by
  unfold mEnd
  rw [mMust_8, if_pos (mCmLp_8 r i a w h)]
theorem mEnd_s {N : Nat} {x : Int32} {r i a : Nat} {w : mV} : mEnd N x (r + 1) i a w = mEnd N x r (i + 1) (a + 1 + (mRd w a N (mSep x i)).1) (u2 (mRdE (mRd w a N (mSep x i))) 6 i (mRd w a N (mSep x i)).2.1) := rfl
theorem cmd_nums {k K N : Nat} (hK : K ≤ 3) {x : Int32} {u : Nat → Int32} : ∀ (r i a : Nat) (v w : mV), i + (r + 1) = K → a + 5 * (r + 1) < 9000 → TX v k u N → w 5 = u → w 0 8 = 1 → w 0 7 = nI a → tHr u N a = mSep x i → (∀ j, j < i → v (k + 2) j = w 6 j) →
    (mEnd N x (r + 1) i a w 0 8 = 0 ∧ (scCmdLp k (nI K) (r + 1) i (nI (a + 1)) v).1 = -1) ∨ (mEnd N x (r + 1) i a w 0 8 = 1 ∧ ∃ a', (scCmdLp k (nI K) (r + 1) i (nI (a + 1)) v).1 = nI a' ∧ mEnd N x (r + 1) i a w 0 7 = nI a' ∧ a < a' ∧ a' ≤ a + 1 + 4 * (r + 1) ∧ ∀ j, j < K → (scCmdLp k (nI K) (r + 1) i (nI (a + 1)) v).2 (k + 2) j = mEnd N x (r + 1) i a w 6 j)
  | r, i, a, v, w, hi, ha, hT, hu, h8, h7, ht, hn => by
    obtain ⟨p1, p2, p3⟩ := mRd_p (w := w) (a := a) (N := N) (x := mSep x i) hu
    obtain ⟨jj, j3, j1, j7, jq, jf⟩ := mRd_ok (v := w) (a := a) (N := N) (x := mSep x i)
    have hle := pDig_le u N 3 (a + 1) 0
    have hd := scDig_p hT 3 (a + 1) 0 (by omega)
    rw [h8, if_neg (show ¬ (1 : Int32) = 0 by decide), if_pos ht] at p3
    have hj : jj = (pDig u N 3 (a + 1) 0).1 := j1.symm.trans p1
    subst hj
    generalize hc : (pDig u N 3 (a + 1) 0).1 = cn at *
    generalize hz : (pDig u N 3 (a + 1) 0).2 = zv at *
    rw [mEnd_s, p1, p2]
    have hw5 : u2 (mRdE (mRd w a N (mSep x i))) 6 i zv 5 = u := by rw [u2_o (by omega), jq 5 (by omega)]; exact hu
    have hw8 : u2 (mRdE (mRd w a N (mSep x i))) 6 i zv 0 8 = if 0 < cn then 1 else 0 := by rw [u2_o (by omega)]; exact p3
    have hw7 : u2 (mRdE (mRd w a N (mSep x i))) 6 i zv 0 7 = nI (a + 1 + cn) := by rw [u2_o (by omega)]; exact j7
    have hw6 : ∀ j, j ≤ i → u2 (mRdE (mRd w a N (mSep x i))) 6 i zv 6 j = if j = i then zv else w 6 j := fun j hj => by
      by_cases hji : j = i
      · subst hji; rw [u2_r, upd_r, if_pos rfl]
      · rw [u2_r, upd_o hji, if_neg hji, jq 6 (by omega)]
    generalize hW : u2 (mRdE (mRd w a N (mSep x i))) 6 i zv = W at hw5 hw8 hw7 hw6
    have hs0 : ∀ e : Int32, scNum v k (nI (a + 1)).toNatClampNeg (nI i) e = if cn = 0 then (-1, v) else if scSign v k (nI (a + 1 + cn)) = e then (nI (a + 1 + cn + 1), u2 v (k + 2) i zv) else (-1, v) := fun e => by
      unfold scNum
      rw [nI_clamp (show a + 1 < 2 ^ 31 by omega), hd, nI_clamp (show i < 2 ^ 31 by omega), if_neg (nI_nneg (show i < 2147483648 by omega)), if_pos ((na_lt rfl kn_3 (by omega) (by omega)).mpr (by omega))]
      by_cases h0 : cn = 0
      · rw [if_pos h0, if_pos (by show a + 1 + cn = a + 1; omega)]
      · rw [if_neg h0, if_neg (by show ¬ a + 1 + cn = a + 1; omega)]
    have hne : ¬ nI (a + 1) = -1 := fun z => nI_nneg (j := a + 1) (by omega) (by rw [z]; decide)
    rw [scCmdLp, if_neg hne, hs0]
    by_cases h0 : cn = 0
    · left
      rw [if_pos h0]
      rw [h0, if_neg (Nat.lt_irrefl 0)] at hw8
      exact ⟨mEnd_0 hw8, by rw [scCmdLp_m1]⟩
    · rw [if_pos (show 0 < cn by omega)] at hw8
      rw [if_neg h0]
      by_cases hlast : i + 1 < K
      · -- a further number follows
        have e44 : (if nI i + 1 < nI K then (44 : Int32) else 59) = 44 := if_pos (by rw [nI_1]; exact (na_lt rfl rfl (by omega) (by omega)).mpr hlast)
        have hsep : mSep x (i + 1) = 44 := if_neg (by omega)
        rw [e44]
        obtain ⟨r', rfl⟩ : ∃ r', r = r' + 1 := ⟨r - 1, by omega⟩
        by_cases hs : scSign v k (nI (a + 1 + cn)) = 44
        · rw [if_pos hs]
          have ht2 : tHr u N (a + 1 + cn) = mSep x (i + 1) := by rw [hsep]; exact (sign_eq hT (by omega) (by decide) (by decide)).mp hs
          rcases cmd_nums (k := k) (x := x) (u := u) (N := N) hK r' (i + 1) (a + 1 + cn) (u2 v (k + 2) i zv) W (by omega) (by omega) ⟨hT.1, by rw [u2_o (by omega)]; exact hT.2.1, fun j hj => by rw [u2_o (by omega)]; exact hT.2.2 j hj⟩ hw5 hw8 hw7 ht2 (fun j hj => by
            rw [u2_r, hw6 j (by omega)]
            by_cases hji : j = i
            · subst hji; rw [upd_r, if_pos rfl]
            · rw [upd_o hji, if_neg hji]; exact hn j (by omega)) with q | ⟨q1, a', q2, q3, q4, q5, q6⟩
          · exact Or.inl q
          · exact Or.inr ⟨q1, a', q2, q3, by omega, by omega, q6⟩
        · left
          rw [if_neg hs]
          refine ⟨?_, by rw [scCmdLp_m1]⟩
          rw [mEnd_s]
          refine mEnd_0 ?_
          rw [u2_o (by omega), (mRd_p hw5).2.2, hw8, if_neg (show ¬ (1 : Int32) = 0 by decide), hsep, if_neg (fun z => hs ((sign_eq hT (by omega) (by decide) (by decide)).mpr z))]
      · have hr0 : r = 0 := by omega
        subst hr0
        have e59 : (if nI i + 1 < nI K then (44 : Int32) else 59) = 59 := if_neg (by rw [nI_1, na_lt rfl rfl (by omega) (by omega)]; exact hlast)
        rw [e59]
        have hend : mEnd N x 0 (i + 1) (a + 1 + cn) W = mMust W (a + 1 + cn) N 59 := rfl
        rw [hend, mMust_8, hw8, if_neg (show ¬ (1 : Int32) = 0 by decide), mHere_t, hw5]
        by_cases hs : scSign v k (nI (a + 1 + cn)) = 59
        · have ht2 : tHr u N (a + 1 + cn) = 59 := (sign_eq hT (by omega) (by decide) (by decide)).mp hs
          rw [if_pos hs, if_pos ht2]
          right
          refine ⟨rfl, a + 1 + cn + 1, rfl, mMust_7, by omega, by omega, fun j hj => ?_⟩
          show u2 v (k + 2) i zv (k + 2) j = mMust W (a + 1 + cn) N 59 6 j
          rw [u2_r, mMust_o (by omega), hw6 j (by omega)]
          by_cases hji : j = i
          · subst hji; rw [upd_r, if_pos rfl]
          · rw [upd_o hji, if_neg hji]; exact hn j (by omega)
        · left
          rw [if_neg hs, if_neg (fun z => hs ((sign_eq hT (by omega) (by decide) (by decide)).mpr z))]
          exact ⟨rfl, rfl⟩
