/-! ===== the reference: cells 0 object, 1 s, 2 begun, 3 aside, 4 past, 5 text, 6 numbers; its state is the row s ===== -/
abbrev tArr (g : mG) (sz : Nat) : (Nat → Int32) → va_E := fun f => .inl (g.2 0, sz, .inl f)
abbrev tModel (b : Nat) : (Nat → Int32) → va_E := fun f => .inr (11, [.ref (b + 1), .ref (b + 2), .ref (b + 3), .ref (b + 4), .int (f 4), .ref (b + 5), .int (f 6), .int (f 7), .int (f 8), .int (f 9), .ref (b + 6)])
def isM (g : mG) (tpl : mT) (b n : Nat) : Prop := tpl 0 = tModel b ∧ tpl 1 = tArr g 229 ∧ tpl 2 = tArr g 229 ∧ tpl 3 = tArr g 229 ∧ tpl 4 = tArr g 916 ∧ tpl 5 = tArr g 80 ∧ tpl 6 = tArr g 3 ∧ 7 ≤ n
theorem isM.k {g : mG} {tpl : mT} {b n : Nat} (h : isM g tpl b n) {j : Nat} (hj : j < 7) : j < n := by have := h.2.2.2.2.2.2.2; omega
theorem na_add0 {x y : Int32} {i : Nat} (hx : x = nI i) (hy : y = nI 0) : x + y = nI i := na_add hx hy
/-- the state row put in -/
def sv (v : mV) (s : Nat → Int32) : mV := fun k => if k = 1 then s else v k
theorem sv_1 {v : mV} {s : Nat → Int32} : sv v s 1 = s := rfl
theorem sv_o {v : mV} {s : Nat → Int32} {q : Nat} (h : q ≠ 1) : sv v s q = v q := by simp [sv, h]
theorem sv_u2 {v : mV} {s : Nat → Int32} {j : Nat} {x : Int32} : u2 (sv v s) 1 j x = sv v (upd s j x) := by
  funext q
  by_cases h : q = 1
  · subst h
    rw [u2_r, sv_1, sv_1]
  · rw [u2_o h, sv_o h, sv_o h]
theorem sv_id {v : mV} : sv v (v 1) = v := by
  funext q
  by_cases h : q = 1
  · subst h; rfl
  · rw [sv_o h]
def mIn (x a c : Int32) : Int32 := if x < a then 0 else if c < x then 0 else 1
theorem mIn_01 (x a c : Int32) : mIn x a c = 0 ∨ mIn x a c = 1 := by
  unfold mIn
  repeat' split
  all_goals simp
theorem mIn_of {x c : Int32} {k : Nat} (hk : c = nI k - 1) (hz : k < 2147483647) (h : ¬ mIn x 0 c = 0) : ∃ j, j < k ∧ x = nI j := by
  unfold mIn at h
  split at h
  · exact absurd rfl h
  · rename_i h0
    split at h
    · exact absurd rfl h
    · rename_i h1
      obtain ⟨j, hj, rfl⟩ := nI_of h0
      refine ⟨j, ?_, rfl⟩
      subst hk
      by_cases hk0 : k = 0
      · subst hk0
        exact absurd (show nI 0 - 1 < nI j by
          refine Int32.lt_of_lt_of_le (b := 0) (by decide +kernel) (nI_pos' hj)) h1
      · rw [show nI k - 1 = nI (k - 1) by rw [show k = k - 1 + 1 by omega, nI_pred, Nat.add_sub_cancel]] at h1
        rw [na_lt rfl rfl (by omega) (by omega)] at h1
        omega
theorem mIn_7 {x : Int32} (h : ¬ mIn x 0 7 = 0) : ∃ j, j < 8 ∧ x = nI j := mIn_of (k := 8) (by decide +kernel) (by decide) h
def mInc (s : Nat → Int32) (x : Int32) : Int32 := if mIn x 0 7 = 0 then 0 else if s (101 + 16 * x.toNatClampNeg) = 1 then 1 else 0
theorem mInc_01 (s : Nat → Int32) (x : Int32) : mInc s x = 0 ∨ mInc s x = 1 := by
  unfold mInc
  repeat' split
  all_goals simp
theorem mInc_of {s : Nat → Int32} {x : Int32} (h : ¬ mInc s x = 0) : ∃ j, j < 8 ∧ x = nI j := by
  unfold mInc at h
  split at h
  · exact absurd rfl h
  · rename_i h0
    exact mIn_7 h0
def mRegLp (s : Nat → Int32) (hr : Int32) : Nat → Nat → Int32
  | 0, _ => -1
  | r + 1, i => if fCovers (s (56 + 9 * i + 3)) (s (56 + 9 * i)) (s (56 + 9 * i + 1)) hr = 0 then mRegLp s hr r (i + 1) else nI i
def mRegion (s : Nat → Int32) (t : Int32) : Int32 := mRegLp s (fHour t) (s 1).toNatClampNeg 0
theorem mRegLp_or (s : Nat → Int32) (hr : Int32) : ∀ (r i : Nat), mRegLp s hr r i = -1 ∨ ∃ j, j < i + r ∧ i ≤ j ∧ mRegLp s hr r i = nI j ∧ 0 < s (56 + 9 * j + 3)
  | 0, _ => Or.inl rfl
  | r + 1, i => by
    unfold mRegLp
    split
    · rcases mRegLp_or s hr r (i + 1) with h | ⟨j, h1, h2, h3, h4⟩
      · exact Or.inl h
      · exact Or.inr ⟨j, by omega, by omega, h3, h4⟩
    · rename_i h
      refine Or.inr ⟨i, by omega, by omega, rfl, ?_⟩
      unfold fCovers at h
      split at h
      · rename_i h0
        exact h0
      · exact absurd rfl h
/-- ranges of the state -/
def MI (s : Nat → Int32) : Prop :=
  (∃ P, P ≤ 8 ∧ s 0 = nI P) ∧ (∃ R, R ≤ 3 ∧ s 1 = nI R ∧ ∀ k, k < R → ∃ h, 1 ≤ h ∧ h ≤ 24 ∧ s (56 + 9 * k + 2) = nI h) ∧ (∃ T, T ≤ 31000 ∧ s 2 = nI T ∧ ∀ i, i < 8 → ∃ l, l ≤ 70000 ∧ s (101 + 16 * i + 3) = nI l) ∧ (∃ O, O ≤ 6 ∧ s 15 = nI O) ∧
  (∀ k, k < 3 → ∃ m, m ≤ 5 ∧ s (56 + 9 * k + 3) = nI m) ∧ (∀ k j, k < 3 → j < 5 → ∃ p, p < 8 ∧ s (56 + 9 * k + (4 + j)) = nI p) ∧ (∀ k, k < 6 → ∃ p, p < 8 ∧ s (83 + 3 * k + 1) = nI p) ∧ (∀ i, i < 8 → ∃ w, w ≤ 8 ∧ s (101 + 16 * i + 4) = nI w)
def mStLp (s : Nat → Int32) (rg t : Int32) : Nat → Nat → Int32 → Int32
  | 0, _, f => f
  | r + 1, i, f => mStLp s rg t r (i + 1) (if s (83 + 3 * i) = rg then (if t < s (83 + 3 * i + 2) then s (83 + 3 * i + 1) else f) else f)
def mPlace (s : Nat → Int32) (j : Nat) (t lv : Int32) : Int32 := t / 60 / s (56 + 9 * j + 2) + lv - (t / 60 / s (56 + 9 * j + 2) + lv) / s (56 + 9 * j + 3) * s (56 + 9 * j + 3)
def mPerson (s : Nat → Int32) (t lv : Int32) : Int32 :=
  if mRegion s t < 0 then -1 else
    if (if lv = 0 then mStLp s (mRegion s t) t (s 15).toNatClampNeg 0 (-1) else -1) < 0 then s (56 + 9 * (mRegion s t).toNatClampNeg + (4 + (mPlace s (mRegion s t).toNatClampNeg t lv).toNatClampNeg))
    else (if lv = 0 then mStLp s (mRegion s t) t (s 15).toNatClampNeg 0 (-1) else -1)
theorem mStLp_or {s : Nat → Int32} (h : ∀ k, k < 6 → ∃ p, p < 8 ∧ s (83 + 3 * k + 1) = nI p) (rg t : Int32) : ∀ (r i : Nat) (f : Int32), i + r ≤ 6 → (f = -1 ∨ ∃ p, p < 8 ∧ f = nI p) → mStLp s rg t r i f = -1 ∨ ∃ p, p < 8 ∧ mStLp s rg t r i f = nI p
  | 0, _, f, _, hf => hf
  | r + 1, i, f, hi, hf => by
    unfold mStLp
    refine mStLp_or h rg t r (i + 1) _ (by omega) ?_
    split
    · split
      · exact Or.inr (h i (by omega))
      · exact hf
    · exact hf
theorem mRegion_or {s : Nat → Int32} (hI : MI s) (t : Int32) : mRegion s t = -1 ∨ ∃ j, j < 3 ∧ mRegion s t = nI j ∧ (∃ h, 1 ≤ h ∧ h ≤ 24 ∧ s (56 + 9 * j + 2) = nI h) ∧ ∃ m, 1 ≤ m ∧ m ≤ 5 ∧ s (56 + 9 * j + 3) = nI m := by
  obtain ⟨-, ⟨R, hR, eR, hsh⟩, -, -, hm, -⟩ := hI
  unfold mRegion
  rw [eR, nI_clamp (show R < 2 ^ 31 by omega)]
  rcases mRegLp_or s (fHour t) R 0 with h | ⟨j, h1, -, h3, h4⟩
  · exact Or.inl h
  · obtain ⟨m, hm5, em⟩ := hm j (by omega)
    rw [em] at h4
    have h5 := (na_lt kn_0 rfl (by omega) (by omega)).mp h4
    exact Or.inr ⟨j, by omega, h3, hsh j (by omega), m, by omega, hm5, em⟩
theorem mRegion_pos {s : Nat → Int32} (hI : MI s) {t : Int32} (h : ¬ mRegion s t < 0) : ∃ j, j < 3 ∧ mRegion s t = nI j ∧ (∃ h, 1 ≤ h ∧ h ≤ 24 ∧ s (56 + 9 * j + 2) = nI h) ∧ ∃ m, 1 ≤ m ∧ m ≤ 5 ∧ s (56 + 9 * j + 3) = nI m := by
  rcases mRegion_or hI t with e | e
  · exact absurd (by rw [e]; decide) h
  · exact e
theorem nI_div {a c : Nat} (ha : a < 2147483648) (hc : c < 2147483648) : nI a / nI c = nI (a / c) := by
  refine Int32.toInt_inj.mp ?_
  have h1 : a / c ≤ a := Nat.div_le_self a c
  have hne : nI a ≠ Int32.minValue := fun z => by
    have := congrArg Int32.toInt z
    rw [nI_toInt ha] at this
    rw [show (Int32.minValue).toInt = -2147483648 by decide] at this
    omega
  rw [Int32.toInt_div_of_ne_left _ _ hne, nI_toInt ha, nI_toInt hc, nI_toInt (show a / c < 2 ^ 31 by omega)]
  exact (Int.ofNat_tdiv a c)
/-- a place in a rota -/
theorem mPlace_of {t lv : Int32} {T l h m : Nat} (hT : T ≤ 100000) (et : t = nI T) (hl : l ≤ 100000) (el : lv = nI l) (hh : 1 ≤ h) (hh2 : h ≤ 24) (hm : 1 ≤ m) (hm5 : m ≤ 5) : t / 60 / nI h + lv - (t / 60 / nI h + lv) / nI m * nI m = nI ((T / 60 / h + l) % m) := by
  subst et; subst el
  have h1 : T / 60 / h ≤ T := Nat.le_trans (Nat.div_le_self _ _) (Nat.div_le_self _ _)
  rw [show (60 : Int32) = nI 60 from kn_60, nI_div (by omega) (by omega), nI_div (by have := Nat.div_le_self T 60; omega) (by omega), nI_add, nI_div (by omega) (by omega), nI_mul]
  refine (Int32.ofNat_sub _ _ (Nat.div_mul_le_self _ _)).symm.trans ?_
  show nI _ = _
  congr 1
  have := Nat.div_add_mod (T / 60 / h + l) m
  rw [Nat.mul_comm] at this
  omega
theorem MI_R {s : Nat → Int32} (h : MI s) : ∃ R, R ≤ 3 ∧ s 1 = nI R := by
  obtain ⟨R, h1, h2, -⟩ := h.2.1
  exact ⟨R, h1, h2⟩
section ROWSM
variable {g : mG} {p : Program} {l : Launch} {e : Env} {R : Room} {s : State} {m : MethodId} {args : Array Value} {below : List Frame} {meth : Method} {c : Code} {Q : State → Prop} {tpl : mT} {b n : Nat} {v : mV} {σ : Nat → Int32} {pc : Nat} {L : List (Option Value)} {st : List Value} {own : String} {cc : ByteArray}
theorem r_sld (C : cx g p s m args meth c own cc) {j : Nat} {i : Int32} (hd : decode cc pc = .ok (.iaload, 1)) (hm : isM g tpl b n) (hi : i = nI j) (hj : j < 229) (kk : WM g p l e R s m args below meth c Q tpl b n (sv v σ) (pc + 1) L (.int (σ j) :: st)) : WM g p l e R s m args below meth c Q tpl b n (sv v σ) pc L (.int i :: .ref (b + 1) :: st) := r_iald C hd hm.2.1 (hm.k (by decide)) hi hj rfl kk
theorem r_sst (C : cx g p s m args meth c own cc) {j : Nat} {i x : Int32} (hd : decode cc pc = .ok (.iastore, 1)) (hm : isM g tpl b n) (hi : i = nI j) (hj : j < 229) (kk : WM g p l e R s m args below meth c Q tpl b n (sv v (upd σ j x)) (pc + 1) L st) : WM g p l e R s m args below meth c Q tpl b n (sv v σ) pc L (.int x :: .int i :: .ref (b + 1) :: st) := r_iast C hd hm.2.1 (hm.k (by decide)) hi hj rfl (by rw [sv_u2]; exact kk)
end ROWSM
def mExc (σ : Nat → Int32) (w : Nat) (c : Int32) : Int32 := if (σ (16 + 5 * w + 2) >>> (c &&& 31)) &&& 1 = 1 then 1 else 0
theorem mExc_01 (σ : Nat → Int32) (w : Nat) (c : Int32) : mExc σ w c = 0 ∨ mExc σ w c = 1 := by
  unfold mExc
  split <;> simp
