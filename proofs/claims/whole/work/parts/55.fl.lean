/-! ===== floats: what is normal, exact products, quotients ===== -/
abbrev fl32 : Jvm.FP.Core.Fmt := Jvm.FP.Core.b32
abbrev fl64 : Jvm.FP.Core.Fmt := Jvm.FP.Core.b64
/-- the bits of a normal positive float -/
def fF (e t : Nat) : Nat := e * 8388608 + t
theorem fF_dec {e t : Nat} (h1 : 1 ≤ e) (h2 : e ≤ 254) (ht : t < 8388608) : Jvm.FP.Core.decode fl32 (fF e t) = .fin false (8388608 + t) ((e : Int) - 150) := by
  have e1 : Jvm.FP.Core.fieldE fl32 (fF e t) = e := by
    show (e * 8388608 + t) / 8388608 % 256 = e
    omega
  have e2 : Jvm.FP.Core.fieldT fl32 (fF e t) = t := by
    show (e * 8388608 + t) % 8388608 = t
    omega
  have e3 : Jvm.FP.Core.fieldS fl32 (fF e t) = false := by
    show ((e * 8388608 + t) / 8388608 / 256 % 2 == 1) = false
    rw [show (e * 8388608 + t) / 8388608 / 256 = 0 by omega]
    rfl
  unfold Jvm.FP.Core.decode
  rw [e1, e2, e3, if_neg (show ¬ e = fl32.exps - 1 by show ¬ e = 255; omega), if_neg (by omega)]
  show Jvm.FP.Core.Datum.fin false (8388608 + t) (-149 + ((e : Int) - 1)) = _
  congr 1
  omega
theorem fF_enc {e c : Nat} {q : Int} (h1 : 8388608 ≤ c) (hq : q = (e : Int) - 150) (he : 1 ≤ e) : Jvm.FP.Core.encode fl32 (.fin false c q) = fF e (c - 8388608) := by
  subst hq
  show (if c < 8388608 then _ else ((false.toNat * 256 + ((((e : Int) - 150) - (-149)).toNat + 1)) * 8388608 + (c - 8388608))) = _
  rw [if_neg (by omega), show ((((e : Int) - 150) - (-149)).toNat + 1) = e by omega]
  show (0 * 256 + e) * 8388608 + (c - 8388608) = _
  rw [fF]
  omega
theorem fl_leading1 {n k : Nat} (h1 : 2 ^ k ≤ n) (h2 : n < 2 ^ (k + 1)) : Jvm.FP.Core.leading n 1 = (k : Int) := by
  have hn : n ≠ 0 := by have := Nat.two_pow_pos k; omega
  have hl : n.log2 = k := (Nat.log2_eq_iff hn).mpr ⟨h1, h2⟩
  have h0 : (1 : Nat).log2 = 0 := by decide
  unfold Jvm.FP.Core.leading
  simp only [hl, h0]
  rw [if_pos]
  · omega
  · rw [show ((k : Int) - ((0 : Nat) : Int)).toNat = k by omega, show (-((k : Int) - ((0 : Nat) : Int))).toNat = 0 by omega]
    omega
theorem fl_nearest {c D : Nat} (hD : 0 < D) : Jvm.FP.Core.nearest (c * D) D = c := by
  unfold Jvm.FP.Core.nearest
  rw [Nat.mul_mod_left, if_pos (by omega), Nat.mul_div_cancel _ hD]
/-- what fits exactly is rounded to itself -/
theorem fl_exact {s : Bool} {n k c : Nat} {e q : Int} (h1 : 2 ^ k ≤ n) (h2 : n < 2 ^ (k + 1)) (hq : q = e + (k : Int) - 23) (q1 : -149 ≤ q) (q2 : q ≤ 104) (hc : n * 2 ^ (e - q).toNat = c * 2 ^ (q - e).toNat) (hc2 : c < 16777216) : Jvm.FP.Core.roundRatio fl32 s n 1 e = .fin s c q := by
  have hn : n ≠ 0 := by have := Nat.two_pow_pos k; omega
  have hQ : Jvm.FP.Core.quantum fl32 n 1 e = q := by
    unfold Jvm.FP.Core.quantum
    rw [fl_leading1 h1 h2]
    show max (-149 : Int) ((k : Int) + e - (24 - 1)) = q
    omega
  unfold Jvm.FP.Core.roundRatio
  rw [if_neg hn, hQ]
  unfold Jvm.FP.Core.roundAt Jvm.FP.Core.unitsNum Jvm.FP.Core.unitsDen
  rw [hc, Nat.one_mul, fl_nearest (Nat.two_pow_pos _)]
  unfold Jvm.FP.Core.settle
  rw [if_pos (show c < 2 ^ fl32.p from hc2)]
  unfold Jvm.FP.Core.bound
  rw [if_pos (show q ≤ fl32.qmax from q2)]
theorem fl_nearest2 {N D P : Nat} (hD : 0 < D) (h1 : P * D ≤ N) (h2 : N < 2 * P * D) : P ≤ Jvm.FP.Core.nearest N D ∧ Jvm.FP.Core.nearest N D ≤ 2 * P := by
  have a1 : P ≤ N / D := (Nat.le_div_iff_mul_le hD).mpr h1
  have a2 : N / D < 2 * P := (Nat.div_lt_iff_lt_mul hD).mpr h2
  unfold Jvm.FP.Core.nearest
  split
  · omega
  · split
    · omega
    · have : N / D % 2 < 2 := Nat.mod_lt _ (by omega)
      omega
/-- rounding to a normal number -/
theorem fl_round {f : Jvm.FP.Core.Fmt} {P : Nat} {s : Bool} {n d : Nat} {e L : Int} (hp : 2 ^ f.p = 2 * P) (ht : f.tails = P) (hn : n ≠ 0) (hL : Jvm.FP.Core.leading n d = L) (q1 : f.qmin ≤ L + e - ((f.p : Int) - 1)) (q2 : L + e - ((f.p : Int) - 1) + 1 ≤ f.qmax) (hd : 0 < d)
    (h1 : P * (d * 2 ^ (L - ((f.p : Int) - 1)).toNat) ≤ n * 2 ^ (((f.p : Int) - 1) - L).toNat) (h2 : n * 2 ^ (((f.p : Int) - 1) - L).toNat < 2 * P * (d * 2 ^ (L - ((f.p : Int) - 1)).toNat)) :
    ∃ (c : Nat) (q : Int), Jvm.FP.Core.roundRatio f s n d e = .fin s c q ∧ P ≤ c ∧ c < 2 * P ∧ L + e - ((f.p : Int) - 1) ≤ q ∧ q ≤ L + e - ((f.p : Int) - 1) + 1 := by
  have hP : 0 < P := by
    have := Nat.two_pow_pos f.p
    omega
  have hQ : Jvm.FP.Core.quantum f n d e = L + e - ((f.p : Int) - 1) := by
    unfold Jvm.FP.Core.quantum
    rw [hL]
    omega
  unfold Jvm.FP.Core.roundRatio
  rw [if_neg hn, hQ]
  unfold Jvm.FP.Core.roundAt Jvm.FP.Core.unitsNum Jvm.FP.Core.unitsDen
  rw [show e - (L + e - ((f.p : Int) - 1)) = ((f.p : Int) - 1) - L by omega, show (L + e - ((f.p : Int) - 1)) - e = L - ((f.p : Int) - 1) by omega]
  obtain ⟨b1, b2⟩ := fl_nearest2 (Nat.mul_pos hd (Nat.two_pow_pos _)) h1 h2
  generalize Jvm.FP.Core.nearest (n * 2 ^ (((f.p : Int) - 1) - L).toNat) (d * 2 ^ (L - ((f.p : Int) - 1)).toNat) = c at b1 b2
  unfold Jvm.FP.Core.settle Jvm.FP.Core.bound
  rw [hp, ht]
  by_cases hc : c < 2 * P
  · rw [if_pos hc, if_pos (by omega)]
    exact ⟨c, _, rfl, b1, hc, by omega, by omega⟩
  · rw [if_neg hc, if_pos (by omega)]
    exact ⟨P, _, rfl, by omega, by omega, by omega, by omega⟩
def fB32 (n : Nat) : UInt32 := UInt32.ofNat n
theorem fB_to {n : Nat} (h : n < 4294967296) : (fB32 n).toNat = n := by
  show (UInt32.ofNat n).toNat = n
  rw [UInt32.toNat_ofNat']
  exact Nat.mod_eq_of_lt h
theorem fF_lt {e t : Nat} (h2 : e ≤ 254) (ht : t < 8388608) : fF e t < 2139095040 := by unfold fF; omega
theorem fl_nan {n : Nat} (h : n ≤ 2139095040) : (fB32 n) &&& 0x7fffffff ≤ 0x7f800000 := by
  rw [UInt32.le_iff_toNat_le, UInt32.toNat_and, fB_to (by omega)]
  show n &&& 2147483647 ≤ 2139095040
  rw [show (2147483647 : Nat) = 2 ^ 31 - 1 by decide, Nat.and_two_pow_sub_one_eq_mod, Nat.mod_eq_of_lt (by omega)]
  exact h
theorem fl_mul {e1 e2 t : Nat} (h1 : 1 ≤ e1) (h2 : e1 ≤ 254) (h3 : 1 ≤ e2) (h4 : e2 ≤ 254) (ht : t < 8388608) (h5 : 128 ≤ e1 + e2) (h6 : e1 + e2 ≤ 381) : Jvm.FP.Core.fmul (fB32 (fF e1 t)) (fB32 (fF e2 0)) = fB32 (fF (e1 + e2 - 127) t) := by
  have a1 := fF_lt h2 ht
  have a2 := fF_lt (t := 0) h4 (by omega)
  unfold Jvm.FP.Core.fmul
  rw [fB_to (by omega), fB_to (by omega)]
  show UInt32.ofNat _ = UInt32.ofNat _
  congr 1
  unfold Jvm.FP.Core.mul
  rw [fF_dec h1 h2 ht, fF_dec h3 h4 (by omega)]
  show Jvm.FP.Core.encode fl32 (Jvm.FP.Core.roundRatio fl32 (false != false) ((8388608 + t) * (8388608 + 0)) 1 (((e1 : Int) - 150) + ((e2 : Int) - 150))) = _
  rw [fl_exact (k := 46) (c := 8388608 + t) (q := ((e1 + e2 - 127 : Nat) : Int) - 150) (by omega) (by omega) (by omega) (by omega) (by omega) ?_ (by omega)]
  · rw [show (false != false) = false from rfl, fF_enc (by omega) rfl (by omega), Nat.add_sub_cancel_left]
  · rw [show (((e1 : Int) - 150) + ((e2 : Int) - 150) - (((e1 + e2 - 127 : Nat) : Int) - 150)).toNat = 0 by omega, show ((((e1 + e2 - 127 : Nat) : Int) - 150) - (((e1 : Int) - 150) + ((e2 : Int) - 150))).toNat = 23 by omega]
    omega
theorem fl_cmp_lt {e e2 t : Nat} (h1 : 1 ≤ e) (h2 : e < e2) (h4 : e2 ≤ 254) (ht : t < 8388608) : Jvm.FP.Core.fcmp (fB32 (fF e t)) (fB32 (fF e2 0)) = some .lt := by
  have a1 := fF_lt (e := e) (by omega) ht
  have a2 := fF_lt (t := 0) h4 (by omega)
  unfold Jvm.FP.Core.fcmp Jvm.FP.Core.cmp
  rw [fB_to (by omega), fB_to (by omega), fF_dec h1 (by omega) ht, fF_dec (by omega) h4 (by omega)]
  show some (compare (((8388608 + t) * 2 ^ (((e : Int) - 150) - min ((e : Int) - 150) ((e2 : Int) - 150)).toNat : Nat) : Int) (((8388608 + 0) * 2 ^ (((e2 : Int) - 150) - min ((e : Int) - 150) ((e2 : Int) - 150)).toNat : Nat) : Int)) = _
  rw [show (((e : Int) - 150) - min ((e : Int) - 150) ((e2 : Int) - 150)).toNat = 0 by omega, show (((e2 : Int) - 150) - min ((e : Int) - 150) ((e2 : Int) - 150)).toNat = e2 - e - 1 + 1 by omega, Nat.pow_succ]
  have := Nat.two_pow_pos (e2 - e - 1)
  congr 1
  exact Int.compare_eq_lt.mpr (by omega)
theorem fl_cmp_ge {e e2 t : Nat} (h1 : 1 ≤ e2) (h2 : e2 ≤ e) (h4 : e ≤ 254) (ht : t < 8388608) : Jvm.FP.Core.fcmp (fB32 (fF e t)) (fB32 (fF e2 0)) = some .eq ∨ Jvm.FP.Core.fcmp (fB32 (fF e t)) (fB32 (fF e2 0)) = some .gt := by
  have a1 := fF_lt h4 ht
  have a2 := fF_lt (e := e2) (t := 0) (by omega) (by omega)
  unfold Jvm.FP.Core.fcmp Jvm.FP.Core.cmp
  rw [fB_to (by omega), fB_to (by omega), fF_dec (by omega) h4 ht, fF_dec h1 (by omega) (by omega)]
  show some (compare (((8388608 + t) * 2 ^ (((e : Int) - 150) - min ((e : Int) - 150) ((e2 : Int) - 150)).toNat : Nat) : Int) (((8388608 + 0) * 2 ^ (((e2 : Int) - 150) - min ((e : Int) - 150) ((e2 : Int) - 150)).toNat : Nat) : Int)) = _ ∨ some (compare (((8388608 + t) * 2 ^ (((e : Int) - 150) - min ((e : Int) - 150) ((e2 : Int) - 150)).toNat : Nat) : Int) (((8388608 + 0) * 2 ^ (((e2 : Int) - 150) - min ((e : Int) - 150) ((e2 : Int) - 150)).toNat : Nat) : Int)) = _
  rw [show (((e2 : Int) - 150) - min ((e : Int) - 150) ((e2 : Int) - 150)).toNat = 0 by omega]
  have hz := Nat.two_pow_pos (((e : Int) - 150) - min ((e : Int) - 150) ((e2 : Int) - 150)).toNat
  generalize 2 ^ (((e : Int) - 150) - min ((e : Int) - 150) ((e2 : Int) - 150)).toNat = z at hz
  have hle : (8388608 + 0) * 2 ^ 0 ≤ (8388608 + t) * z := Nat.le_trans (by omega) (Nat.mul_le_mul (Nat.le_add_right 8388608 t) hz)
  by_cases hq : (8388608 + 0) * 2 ^ 0 = (8388608 + t) * z
  · exact Or.inl (congrArg some (Int.compare_eq_eq.mpr (by omega)))
  · exact Or.inr (congrArg some (Int.compare_eq_gt.mpr (by omega)))
theorem fl_cmp_0 {e t : Nat} (h1 : 1 ≤ e) (h4 : e ≤ 254) (ht : t < 8388608) : Jvm.FP.Core.fcmp (fB32 (fF e t)) (fB32 0) = some .gt := by
  have a1 := fF_lt h4 ht
  unfold Jvm.FP.Core.fcmp Jvm.FP.Core.cmp
  rw [fB_to (by omega), fB_to (by omega), fF_dec h1 h4 ht, show Jvm.FP.Core.decode fl32 0 = .fin false 0 (-149) by decide +kernel]
  show some (compare (((8388608 + t) * 2 ^ (((e : Int) - 150) - min ((e : Int) - 150) (-149)).toNat : Nat) : Int) ((0 * 2 ^ ((-149 : Int) - min ((e : Int) - 150) (-149)).toNat : Nat) : Int)) = _
  congr 1
  refine Int.compare_eq_gt.mpr ?_
  have := Nat.mul_pos (show 0 < 8388608 + t by omega) (Nat.two_pow_pos (((e : Int) - 150) - min ((e : Int) - 150) (-149)).toNat)
  omega
/-- a whole number below 2^23, taken from a float of [1, 2) -/
theorem fl_sub {t : Nat} (ht : t < 8388608) : ∃ n, n ≤ 2139095040 ∧ Jvm.FP.Core.fsub (fB32 (fF 127 t)) (fB32 (fF 127 0)) = fB32 n ∧ ((t = 0 ∧ n = 0) ∨ ∃ k u, k ≤ 22 ∧ u < 8388608 ∧ n = fF (k + 104) u ∧ 8388608 + u = t * 2 ^ (23 - k)) := by
  have a1 := fF_lt (e := 127) (by omega) ht
  have a2 := fF_lt (e := 127) (t := 0) (by omega) (by omega)
  have hd : Jvm.FP.Core.fsub (fB32 (fF 127 t)) (fB32 (fF 127 0)) = fB32 (Jvm.FP.Core.encode fl32 (Jvm.FP.Core.roundRatio fl32 false t 1 (-23))) := by
    unfold Jvm.FP.Core.fsub
    rw [fB_to (by omega), fB_to (by omega)]
    show UInt32.ofNat _ = UInt32.ofNat _
    congr 1
    unfold Jvm.FP.Core.sub
    rw [fF_dec (by omega) (by omega) ht, fF_dec (by omega) (by omega) (by omega)]
    have hs : Jvm.FP.Core.sumUnits false (8388608 + t) (-23) true (8388608 + 0) (-23) (-23) = (t : Int) := by
      show (((8388608 + t) * 2 ^ ((-23 : Int) - (-23)).toNat : Nat) : Int) + -(((8388608 + 0) * 2 ^ ((-23 : Int) - (-23)).toNat : Nat) : Int) = _
      rw [show ((-23 : Int) - (-23)).toNat = 0 by decide]
      omega
    show Jvm.FP.Core.encode fl32 (Jvm.FP.Core.roundRatio fl32 (Jvm.FP.Core.sumSign false true (Jvm.FP.Core.sumUnits false (8388608 + t) (-23) true (8388608 + 0) (-23) (-23))) (Jvm.FP.Core.sumUnits false (8388608 + t) (-23) true (8388608 + 0) (-23) (-23)).natAbs 1 (-23)) = _
    rw [hs, Int.natAbs_natCast]
    have hsg : Jvm.FP.Core.sumSign false true (t : Int) = false := by
      unfold Jvm.FP.Core.sumSign
      split
      · rfl
      · exact decide_eq_false (by omega)
    rw [hsg]
  by_cases h0 : t = 0
  · subst h0
    exact ⟨0, by omega, by rw [hd]; rfl, Or.inl ⟨rfl, rfl⟩⟩
  · have hk : 2 ^ t.log2 ≤ t := Nat.log2_self_le h0
    have hk2 : t < 2 ^ (t.log2 + 1) := Nat.lt_log2_self
    have hk3 : t.log2 ≤ 22 := by
      have : t.log2 < 23 := (Nat.log2_lt h0).mpr (by omega)
      omega
    generalize t.log2 = k at hk hk2 hk3
    have hp : 2 ^ k * 2 ^ (23 - k) = 8388608 := by
      rw [← Nat.pow_add, show k + (23 - k) = 23 by omega]
    have hp2 : 2 ^ (k + 1) * 2 ^ (23 - k) = 16777216 := by
      rw [← Nat.pow_add, show k + 1 + (23 - k) = 24 by omega]
    have hl : 8388608 ≤ t * 2 ^ (23 - k) := by
      rw [← hp]
      exact Nat.mul_le_mul hk (Nat.le_refl _)
    have hu : t * 2 ^ (23 - k) < 16777216 := by
      rw [← hp2]
      exact Nat.mul_lt_mul_of_pos_right hk2 (Nat.two_pow_pos _)
    refine ⟨fF (k + 104) (t * 2 ^ (23 - k) - 8388608), Nat.le_of_lt (fF_lt (by omega) (by omega)), ?_, Or.inr ⟨k, t * 2 ^ (23 - k) - 8388608, hk3, by omega, rfl, by omega⟩⟩
    rw [hd, fl_exact (k := k) (c := t * 2 ^ (23 - k)) (q := (k : Int) - 46) hk hk2 (by omega) (by omega) (by omega) ?_ hu, fF_enc (e := k + 104) hl (by omega) (by omega)]
    rw [show ((-23 : Int) - ((k : Int) - 46)).toNat = 23 - k by omega, show (((k : Int) - 46) - (-23)).toNat = 0 by omega, Nat.pow_zero, Nat.mul_one]
theorem fl_tail {t : Nat} (ht : t < 8388608) : ∃ n, n ≤ 2139095040 ∧ Jvm.FP.Core.fmul (Jvm.FP.Core.fsub (fB32 (fF 127 t)) (fB32 (fF 127 0))) (fB32 (fF 150 0)) = fB32 n ∧ Jvm.FP.Core.f2i (fB32 n) = Int32.ofNat t := by
  obtain ⟨n, hn, hs, hh⟩ := fl_sub ht
  rw [hs]
  rcases hh with ⟨rfl, rfl⟩ | ⟨k, u, hk, hu, rfl, he⟩
  · exact ⟨0, by omega, by decide +kernel, by decide +kernel⟩
  · rw [fl_mul (by omega) (by omega) (by omega) (by omega) hu (by omega) (by omega)]
    have ha := fF_lt (e := k + 104 + 150 - 127) (by omega) hu
    refine ⟨_, Nat.le_of_lt ha, rfl, ?_⟩
    unfold Jvm.FP.Core.f2i
    rw [fB_to (by omega), fF_dec (by omega) (by omega) hu]
    show Int32.ofInt (max (-2147483648) (min 2147483647 (((8388608 + u) * 2 ^ (((k + 104 + 150 - 127 : Nat) : Int) - 150).toNat / 2 ^ (-(((k + 104 + 150 - 127 : Nat) : Int) - 150)).toNat : Nat) : Int))) = _
    rw [show (((k + 104 + 150 - 127 : Nat) : Int) - 150).toNat = 0 by omega, show (-(((k + 104 + 150 - 127 : Nat) : Int) - 150)).toNat = 23 - k by omega, he, Nat.pow_zero, Nat.mul_one, Nat.mul_div_cancel _ (Nat.two_pow_pos _)]
    rw [show max (-2147483648) (min 2147483647 (t : Int)) = (t : Int) by omega]
    rfl
theorem fl_lead_b {n k p : Nat} (h1 : 2 ^ k ≤ n) (h2 : n < 2 ^ (k + 1)) : 2 ^ p * (1 * 2 ^ ((k : Int) - (p : Int)).toNat) ≤ n * 2 ^ ((p : Int) - (k : Int)).toNat ∧ n * 2 ^ ((p : Int) - (k : Int)).toNat < 2 * 2 ^ p * (1 * 2 ^ ((k : Int) - (p : Int)).toNat) := by
  rw [Nat.one_mul]
  by_cases hk : k ≤ p
  · rw [show ((k : Int) - (p : Int)).toNat = 0 by omega, show ((p : Int) - (k : Int)).toNat = p - k by omega, Nat.pow_zero, Nat.mul_one, Nat.mul_one]
    have e1 : 2 ^ k * 2 ^ (p - k) = 2 ^ p := by rw [← Nat.pow_add, show k + (p - k) = p by omega]
    have e2 : 2 ^ (k + 1) * 2 ^ (p - k) = 2 * 2 ^ p := by rw [Nat.pow_succ, Nat.mul_comm (2 ^ k) 2, Nat.mul_assoc, e1]
    exact ⟨e1 ▸ Nat.mul_le_mul h1 (Nat.le_refl _), e2 ▸ Nat.mul_lt_mul_of_pos_right h2 (Nat.two_pow_pos _)⟩
  · rw [show ((k : Int) - (p : Int)).toNat = k - p by omega, show ((p : Int) - (k : Int)).toNat = 0 by omega, Nat.pow_zero, Nat.mul_one]
    have e1 : 2 ^ p * 2 ^ (k - p) = 2 ^ k := by rw [← Nat.pow_add, show p + (k - p) = k by omega]
    have e2 : 2 * 2 ^ p * 2 ^ (k - p) = 2 ^ (k + 1) := by rw [Nat.mul_assoc, e1, Nat.pow_succ, Nat.mul_comm]
    rw [e1, e2]
    exact ⟨h1, h2⟩
theorem fl_leading2 {n d p : Nat} (n1 : 2 ^ p ≤ n) (n2 : n < 2 ^ (p + 1)) (d1 : 2 ^ p ≤ d) (d2 : d < 2 ^ (p + 1)) : Jvm.FP.Core.leading n d = if d ≤ n then 0 else -1 := by
  have hz := Nat.two_pow_pos p
  have hn : n.log2 = p := (Nat.log2_eq_iff (by omega)).mpr ⟨n1, n2⟩
  have hd : d.log2 = p := (Nat.log2_eq_iff (by omega)).mpr ⟨d1, d2⟩
  unfold Jvm.FP.Core.leading
  simp only [hn, hd]
  rw [show ((p : Int) - (p : Int)) = 0 by omega]
  by_cases hc : d ≤ n
  · rw [if_pos (show d * 2 ^ (0 : Int).toNat ≤ n * 2 ^ (-(0 : Int)).toNat from Nat.mul_le_mul hc (Nat.le_refl 1)), if_pos hc]
  · rw [if_neg (show ¬ d * 2 ^ (0 : Int).toNat ≤ n * 2 ^ (-(0 : Int)).toNat by show ¬ d * 1 ≤ n * 1; omega), if_neg hc]
    rfl
/-- a quotient of two normal numbers -/
theorem fl_quot {f : Jvm.FP.Core.Fmt} {p n d : Nat} {e : Int} (hp : f.p = p + 1) (ht : f.tails = 2 ^ p) (n1 : 2 ^ p ≤ n) (n2 : n < 2 ^ (p + 1)) (d1 : 2 ^ p ≤ d) (d2 : d < 2 ^ (p + 1)) (q1 : f.qmin ≤ e - (p : Int) - 1) (q2 : e - (p : Int) + 1 ≤ f.qmax) :
    ∃ (c : Nat) (q : Int), Jvm.FP.Core.roundRatio f false n d e = .fin false c q ∧ 2 ^ p ≤ c ∧ c < 2 * 2 ^ p ∧ e - (p : Int) - 1 ≤ q ∧ q ≤ e - (p : Int) + 1 := by
  have hz := Nat.two_pow_pos p
  have hL := fl_leading2 n1 n2 d1 d2
  have hp1 : (f.p : Int) - 1 = (p : Int) := by rw [hp]; omega
  have hs : 2 ^ (p + 1) = 2 * 2 ^ p := by rw [Nat.pow_succ, Nat.mul_comm]
  by_cases hd : d ≤ n
  · rw [if_pos hd] at hL
    obtain ⟨c, q, h1, h2, h3, h4, h5⟩ := fl_round (s := false) (P := 2 ^ p) (e := e) (by rw [hp, hs]) ht (by omega) hL (by rw [hp1]; omega) (by rw [hp1]; omega) (by omega) (by
      rw [hp1, show ((0 : Int) - (p : Int)).toNat = 0 by omega, show ((p : Int) - 0).toNat = p by omega, Nat.pow_zero, Nat.mul_one, Nat.mul_comm]
      exact Nat.mul_le_mul hd (Nat.le_refl _)) (by
      rw [hp1, show ((0 : Int) - (p : Int)).toNat = 0 by omega, show ((p : Int) - 0).toNat = p by omega, Nat.pow_zero, Nat.mul_one, Nat.mul_comm n, Nat.mul_comm 2, Nat.mul_assoc]
      exact Nat.mul_lt_mul_of_pos_left (by omega) hz)
    rw [hp1] at h4 h5
    exact ⟨c, q, h1, h2, h3, by omega, by omega⟩
  · rw [if_neg hd] at hL
    obtain ⟨c, q, h1, h2, h3, h4, h5⟩ := fl_round (s := false) (P := 2 ^ p) (e := e) (by rw [hp, hs]) ht (by omega) hL (by rw [hp1]; omega) (by rw [hp1]; omega) (by omega) (by
      rw [hp1, show ((-1 : Int) - (p : Int)).toNat = 0 by omega, show ((p : Int) - (-1)).toNat = p + 1 by omega, Nat.pow_zero, Nat.mul_one, hs, Nat.mul_comm n, Nat.mul_comm 2, Nat.mul_assoc]
      exact Nat.mul_le_mul (Nat.le_refl _) (by omega)) (by
      rw [hp1, show ((-1 : Int) - (p : Int)).toNat = 0 by omega, show ((p : Int) - (-1)).toNat = p + 1 by omega, Nat.pow_zero, Nat.mul_one, hs, Nat.mul_comm n]
      exact Nat.mul_lt_mul_of_pos_left (by omega) (by omega))
    rw [hp1] at h4 h5
    exact ⟨c, q, h1, h2, h3, by omega, by omega⟩
theorem fl_i2f {n : Nat} (h0 : 0 < n) (hn : n < 2147483648) : ∃ e t, 127 ≤ e ∧ e ≤ 158 ∧ t < 8388608 ∧ Jvm.FP.Core.i2f (Int32.ofNat n) = fB32 (fF e t) := by
  have hk := Nat.log2_self_le (show n ≠ 0 by omega)
  have hk2 : n < 2 ^ (n.log2 + 1) := Nat.lt_log2_self
  have hk3 : n.log2 < 31 := (Nat.log2_lt (by omega)).mpr (by omega)
  generalize n.log2 = k at hk hk2 hk3
  obtain ⟨b1, b2⟩ := fl_lead_b (p := 23) hk hk2
  obtain ⟨c, q, h1, h2, h3, h4, h5⟩ := fl_round (f := fl32) (P := 8388608) (s := false) (n := n) (d := 1) (e := 0) (L := k) rfl rfl (by omega) (fl_leading1 hk hk2) (by show (-149 : Int) ≤ (k : Int) + 0 - (24 - 1); omega) (by show (k : Int) + 0 - (24 - 1) + 1 ≤ 104; omega) (by omega) b1 b2
  have e4 : (k : Int) + 0 - 23 ≤ q := h4
  have e5 : q ≤ (k : Int) + 0 - 23 + 1 := h5
  refine ⟨(q + 150).toNat, c - 8388608, by omega, by omega, by omega, ?_⟩
  have hi : (Int32.ofNat n).toInt = (n : Int) := Int32.toInt_ofNat_of_lt (by omega)
  unfold Jvm.FP.Core.i2f Jvm.FP.Core.fromInt
  rw [hi]
  show UInt32.ofNat (Jvm.FP.Core.encode fl32 (Jvm.FP.Core.roundRatio fl32 (decide ((n : Int) < 0)) (n : Int).natAbs 1 0)) = UInt32.ofNat _
  rw [Int.natAbs_natCast, decide_eq_false (by omega), h1, fF_enc (e := (q + 150).toNat) h2 (by omega) (by omega)]
theorem fl_fdiv {e1 e2 t1 t2 : Nat} (h1 : 127 ≤ e1) (h2 : e1 ≤ 158) (h3 : 127 ≤ e2) (h4 : e2 ≤ 158) (ht1 : t1 < 8388608) (ht2 : t2 < 8388608) : ∃ e t, 1 ≤ e ∧ e ≤ 253 ∧ t < 8388608 ∧ Jvm.FP.Core.fdiv (fB32 (fF e1 t1)) (fB32 (fF e2 t2)) = fB32 (fF e t) := by
  have a1 := fF_lt (e := e1) (by omega) ht1
  have a2 := fF_lt (e := e2) (by omega) ht2
  obtain ⟨c, q, g1, g2, g3, g4, g5⟩ := fl_quot (f := fl32) (p := 23) (n := 8388608 + t1) (d := 8388608 + t2) (e := ((e1 : Int) - 150) - ((e2 : Int) - 150)) rfl rfl (by omega) (by omega) (by omega) (by omega) (by show (-149 : Int) ≤ _; omega) (by show _ ≤ (104 : Int); omega)
  refine ⟨(q + 150).toNat, c - 8388608, by omega, by omega, by omega, ?_⟩
  unfold Jvm.FP.Core.fdiv
  rw [fB_to (by omega), fB_to (by omega)]
  refine congrArg UInt32.ofNat ?_
  unfold Jvm.FP.Core.div
  rw [fF_dec (by omega) (by omega) ht1, fF_dec (by omega) (by omega) ht2]
  show Jvm.FP.Core.encode fl32 (if 8388608 + t2 = 0 then _ else Jvm.FP.Core.roundRatio fl32 (false != false) (8388608 + t1) (8388608 + t2) (((e1 : Int) - 150) - ((e2 : Int) - 150))) = _
  rw [if_neg (by omega), show (false != false) = false from rfl, g1, fF_enc (e := (q + 150).toNat) g2 (by omega) (by omega)]
/-! doubles -/
def fD (e t : Nat) : Nat := e * 4503599627370496 + t
def fB64 (n : Nat) : UInt64 := UInt64.ofNat n
theorem fB64_to {n : Nat} (h : n < 18446744073709551616) : (fB64 n).toNat = n := by
  show (UInt64.ofNat n).toNat = n
  rw [UInt64.toNat_ofNat']
  exact Nat.mod_eq_of_lt h
theorem fD_lt {e t : Nat} (h2 : e ≤ 2046) (ht : t < 4503599627370496) : fD e t < 9218868437227405312 := by unfold fD; omega
theorem fD_nan {n : Nat} (h : n ≤ 9218868437227405312) : (fB64 n) &&& 0x7fffffffffffffff ≤ 0x7ff0000000000000 := by
  rw [UInt64.le_iff_toNat_le, UInt64.toNat_and, fB64_to (by omega)]
  show n &&& 9223372036854775807 ≤ 9218868437227405312
  rw [show (9223372036854775807 : Nat) = 2 ^ 63 - 1 by decide, Nat.and_two_pow_sub_one_eq_mod, Nat.mod_eq_of_lt (by omega)]
  exact h
theorem fD_dec {e t : Nat} (h1 : 1 ≤ e) (h2 : e ≤ 2046) (ht : t < 4503599627370496) : Jvm.FP.Core.decode fl64 (fD e t) = .fin false (4503599627370496 + t) ((e : Int) - 1075) := by
  have e1 : Jvm.FP.Core.fieldE fl64 (fD e t) = e := by
    show (e * 4503599627370496 + t) / 4503599627370496 % 2048 = e
    omega
  have e2 : Jvm.FP.Core.fieldT fl64 (fD e t) = t := by
    show (e * 4503599627370496 + t) % 4503599627370496 = t
    omega
  have e3 : Jvm.FP.Core.fieldS fl64 (fD e t) = false := by
    show ((e * 4503599627370496 + t) / 4503599627370496 / 2048 % 2 == 1) = false
    rw [show (e * 4503599627370496 + t) / 4503599627370496 / 2048 = 0 by omega]
    rfl
  unfold Jvm.FP.Core.decode
  rw [e1, e2, e3, if_neg (show ¬ e = fl64.exps - 1 by show ¬ e = 2047; omega), if_neg (by omega)]
  show Jvm.FP.Core.Datum.fin false (4503599627370496 + t) (-1074 + ((e : Int) - 1)) = _
  rw [show (-1074 + ((e : Int) - 1)) = (e : Int) - 1075 by omega]
theorem fD_enc {e c : Nat} {q : Int} (h1 : 4503599627370496 ≤ c) (hq : q = (e : Int) - 1075) (he : 1 ≤ e) : Jvm.FP.Core.encode fl64 (.fin false c q) = fD e (c - 4503599627370496) := by
  subst hq
  show (if c < 4503599627370496 then _ else ((false.toNat * 2048 + ((((e : Int) - 1075) - (-1074)).toNat + 1)) * 4503599627370496 + (c - 4503599627370496))) = _
  rw [if_neg (by omega), show ((((e : Int) - 1075) - (-1074)).toNat + 1) = e by omega]
  show (0 * 2048 + e) * 4503599627370496 + (c - 4503599627370496) = _
  rw [fD]
  omega
theorem fl_i2d {n : Nat} (h0 : 0 < n) (hn : n < 2147483648) : ∃ e t, 1023 ≤ e ∧ e ≤ 1054 ∧ t < 4503599627370496 ∧ Jvm.FP.Core.i2d (Int32.ofNat n) = fB64 (fD e t) := by
  have hk := Nat.log2_self_le (show n ≠ 0 by omega)
  have hk2 : n < 2 ^ (n.log2 + 1) := Nat.lt_log2_self
  have hk3 : n.log2 < 31 := (Nat.log2_lt (by omega)).mpr (by omega)
  generalize n.log2 = k at hk hk2 hk3
  obtain ⟨b1, b2⟩ := fl_lead_b (p := 52) hk hk2
  obtain ⟨c, q, h1, h2, h3, h4, h5⟩ := fl_round (f := fl64) (P := 4503599627370496) (s := false) (n := n) (d := 1) (e := 0) (L := k) rfl rfl (by omega) (fl_leading1 hk hk2) (by show (-1074 : Int) ≤ (k : Int) + 0 - (53 - 1); omega) (by show (k : Int) + 0 - (53 - 1) + 1 ≤ 971; omega) (by omega) b1 b2
  have e4 : (k : Int) + 0 - 52 ≤ q := h4
  have e5 : q ≤ (k : Int) + 0 - 52 + 1 := h5
  refine ⟨(q + 1075).toNat, c - 4503599627370496, by omega, by omega, by omega, ?_⟩
  have hi : (Int32.ofNat n).toInt = (n : Int) := Int32.toInt_ofNat_of_lt (by omega)
  unfold Jvm.FP.Core.i2d Jvm.FP.Core.fromInt
  rw [hi]
  show UInt64.ofNat (Jvm.FP.Core.encode fl64 (Jvm.FP.Core.roundRatio fl64 (decide ((n : Int) < 0)) (n : Int).natAbs 1 0)) = UInt64.ofNat _
  rw [Int.natAbs_natCast, decide_eq_false (by omega), h1, fD_enc (e := (q + 1075).toNat) h2 (by omega) (by omega)]
theorem fl_ddiv {e1 e2 t1 t2 : Nat} (h1 : 1023 ≤ e1) (h2 : e1 ≤ 1054) (h3 : 1023 ≤ e2) (h4 : e2 ≤ 1054) (ht1 : t1 < 4503599627370496) (ht2 : t2 < 4503599627370496) : ∃ e t, 990 ≤ e ∧ e ≤ 1060 ∧ t < 4503599627370496 ∧ Jvm.FP.Core.ddiv (fB64 (fD e1 t1)) (fB64 (fD e2 t2)) = fB64 (fD e t) := by
  have a1 := fD_lt (e := e1) (by omega) ht1
  have a2 := fD_lt (e := e2) (by omega) ht2
  obtain ⟨c, q, g1, g2, g3, g4, g5⟩ := fl_quot (f := fl64) (p := 52) (n := 4503599627370496 + t1) (d := 4503599627370496 + t2) (e := ((e1 : Int) - 1075) - ((e2 : Int) - 1075)) rfl rfl (by omega) (by omega) (by omega) (by omega) (by show (-1074 : Int) ≤ _; omega) (by show _ ≤ (971 : Int); omega)
  refine ⟨(q + 1075).toNat, c - 4503599627370496, by omega, by omega, by omega, ?_⟩
  unfold Jvm.FP.Core.ddiv
  rw [fB64_to (by omega), fB64_to (by omega)]
  refine congrArg UInt64.ofNat ?_
  unfold Jvm.FP.Core.div
  rw [fD_dec (by omega) (by omega) ht1, fD_dec (by omega) (by omega) ht2]
  show Jvm.FP.Core.encode fl64 (if 4503599627370496 + t2 = 0 then _ else Jvm.FP.Core.roundRatio fl64 (false != false) (4503599627370496 + t1) (4503599627370496 + t2) (((e1 : Int) - 1075) - ((e2 : Int) - 1075))) = _
  rw [if_neg (by omega), show (false != false) = false from rfl, g1, fD_enc (e := (q + 1075).toNat) g2 (by omega) (by omega)]
theorem fl_d2f {e t : Nat} (h1 : 990 ≤ e) (h2 : e ≤ 1060) (ht : t < 4503599627370496) : ∃ e' t', 1 ≤ e' ∧ e' ≤ 253 ∧ t' < 8388608 ∧ Jvm.FP.d2f (fB64 (fD e t)) = fB32 (fF e' t') := by
  have a1 := fD_lt (e := e) (by omega) ht
  have hd := fD_dec (e := e) (by omega) (by omega) ht
  obtain ⟨b1, b2⟩ := fl_lead_b (p := 23) (n := 4503599627370496 + t) (k := 52) (by omega) (by omega)
  obtain ⟨c, q, g1, g2, g3, g4, g5⟩ := fl_round (f := fl32) (P := 8388608) (s := false) (n := 4503599627370496 + t) (d := 1) (e := (e : Int) - 1075) (L := (52 : Nat)) rfl rfl (by omega) (fl_leading1 (by omega) (by omega)) (by show (-149 : Int) ≤ ((52 : Nat) : Int) + ((e : Int) - 1075) - (24 - 1); omega) (by show ((52 : Nat) : Int) + ((e : Int) - 1075) - (24 - 1) + 1 ≤ (104 : Int); omega) (by omega) b1 b2
  have e4 : ((52 : Nat) : Int) + ((e : Int) - 1075) - 23 ≤ q := g4
  have e5 : q ≤ ((52 : Nat) : Int) + ((e : Int) - 1075) - 23 + 1 := g5
  refine ⟨(q + 150).toNat, c - 8388608, by omega, by omega, by omega, ?_⟩
  unfold Jvm.FP.d2f Jvm.FP.Core.dIsNaN Jvm.FP.Core.isNaN
  rw [fB64_to (by omega), hd, if_neg (by simp)]
  unfold Jvm.FP.Core.d2f
  rw [fB64_to (by omega)]
  refine congrArg UInt32.ofNat ?_
  unfold Jvm.FP.Core.convert
  rw [hd]
  show Jvm.FP.Core.encode fl32 (Jvm.FP.Core.roundRatio fl32 false (4503599627370496 + t) 1 ((e : Int) - 1075)) = _
  rw [g1, fF_enc (e := (q + 150).toNat) g2 (by omega) (by omega)]
/-- the two quotients of the class and of the reference: +0 or a normal number -/
def fN (x : UInt32) : Prop := x = fB32 0 ∨ ∃ e t, 1 ≤ e ∧ e ≤ 253 ∧ t < 8388608 ∧ x = fB32 (fF e t)
theorem fN_f {a b : Nat} (ha : a < 2147483648) (h0 : 0 < b) (hb : b < 2147483648) : fN (Jvm.FP.Core.fdiv (Jvm.FP.Core.i2f (Int32.ofNat a)) (Jvm.FP.Core.i2f (Int32.ofNat b))) := by
  obtain ⟨e2, t2, g1, g2, g3, g4⟩ := fl_i2f h0 hb
  rw [g4]
  by_cases hz : a = 0
  · subst hz
    left
    have a2 := fF_lt (e := e2) (by omega) g3
    rw [show Jvm.FP.Core.i2f (Int32.ofNat 0) = fB32 0 by decide +kernel]
    unfold Jvm.FP.Core.fdiv
    rw [fB_to (by omega), fB_to (by omega)]
    refine congrArg UInt32.ofNat ?_
    unfold Jvm.FP.Core.div
    rw [fF_dec (by omega) (by omega) g3, show Jvm.FP.Core.decode fl32 0 = .fin false 0 (-149) by decide +kernel]
    show Jvm.FP.Core.encode fl32 (if 8388608 + t2 = 0 then _ else Jvm.FP.Core.roundRatio fl32 (false != false) 0 (8388608 + t2) ((-149) - ((e2 : Int) - 150))) = _
    rw [if_neg (by omega)]
    unfold Jvm.FP.Core.roundRatio
    rw [if_pos rfl]
    rfl
  · obtain ⟨e1, t1, k1, k2, k3, k4⟩ := fl_i2f (show 0 < a by omega) ha
    rw [k4]
    right
    exact fl_fdiv k1 k2 g1 g2 k3 g3
theorem fN_d {a b : Nat} (ha : a < 2147483648) (h0 : 0 < b) (hb : b < 2147483648) : fN (Jvm.FP.d2f (Jvm.FP.Core.ddiv (Jvm.FP.Core.i2d (Int32.ofNat a)) (Jvm.FP.Core.i2d (Int32.ofNat b)))) ∧ (Jvm.FP.Core.ddiv (Jvm.FP.Core.i2d (Int32.ofNat a)) (Jvm.FP.Core.i2d (Int32.ofNat b))) &&& 0x7fffffffffffffff ≤ 0x7ff0000000000000 := by
  obtain ⟨e2, t2, g1, g2, g3, g4⟩ := fl_i2d h0 hb
  rw [g4]
  by_cases hz : a = 0
  · subst hz
    have a2 := fD_lt (e := e2) (by omega) g3
    have hd : Jvm.FP.Core.ddiv (Jvm.FP.Core.i2d (Int32.ofNat 0)) (fB64 (fD e2 t2)) = fB64 0 := by
      rw [show Jvm.FP.Core.i2d (Int32.ofNat 0) = fB64 0 by decide +kernel]
      unfold Jvm.FP.Core.ddiv
      rw [fB64_to (by omega), fB64_to (by omega)]
      refine congrArg UInt64.ofNat ?_
      unfold Jvm.FP.Core.div
      rw [fD_dec (by omega) (by omega) g3, show Jvm.FP.Core.decode fl64 0 = .fin false 0 (-1074) by decide +kernel]
      show Jvm.FP.Core.encode fl64 (if 4503599627370496 + t2 = 0 then _ else Jvm.FP.Core.roundRatio fl64 (false != false) 0 (4503599627370496 + t2) ((-1074) - ((e2 : Int) - 1075))) = _
      rw [if_neg (by omega)]
      unfold Jvm.FP.Core.roundRatio
      rw [if_pos rfl]
      rfl
    rw [hd]
    exact ⟨Or.inl (by decide +kernel), by decide +kernel⟩
  · obtain ⟨e1, t1, k1, k2, k3, k4⟩ := fl_i2d (show 0 < a by omega) ha
    rw [k4]
    obtain ⟨e, t, m1, m2, m3, m4⟩ := fl_ddiv k1 k2 g1 g2 k3 g3
    rw [m4]
    exact ⟨Or.inr (fl_d2f m1 m2 m3), fD_nan (Nat.le_of_lt (fD_lt (by omega) m3))⟩
/-! ===== the count of ones: bytes ===== -/
def bcP (a : Nat) : Nat := a - (a / 2 &&& 85)
def bcQ (a : Nat) : Nat := (a &&& 51) + (a / 4 &&& 51)
def bcR (a : Nat) : Nat := (a + a / 16) % 16
def bcOnes : Nat → Nat → Nat
  | 0, _ => 0
  | k + 1, n => n % 2 + bcOnes k (n / 2)
theorem bc_byte : ∀ a : Nat, a < 256 → bcR (bcQ (bcP a)) = bcOnes 8 a ∧ bcP a < 256 ∧ bcQ (bcP a) ≤ 102 ∧ a / 2 &&& 85 ≤ a := by decide +kernel
theorem bc_q4 : ∀ a : Nat, a < 256 → (bcQ (bcP a) ≤ 68 ∧ bcQ (bcP a) % 16 ≤ 4) ∧ bcR (bcQ (bcP a)) ≤ 8 := by decide +kernel
theorem land_split {k a b c d : Nat} (hc : c < 2 ^ k) (hd : d < 2 ^ k) : (2 ^ k * a + c) &&& (2 ^ k * b + d) = 2 ^ k * (a &&& b) + (c &&& d) := by
  refine Nat.eq_of_testBit_eq (fun i => ?_)
  rw [Nat.testBit_and, Nat.testBit_two_pow_mul_add _ hc, Nat.testBit_two_pow_mul_add _ hd, Nat.testBit_two_pow_mul_add _ (Nat.lt_of_le_of_lt Nat.and_le_left hc)]
  split <;> rw [Nat.testBit_and]
/-- three bytes against three bytes -/
theorem land3 {a b c x y z : Nat} (ha : a < 256) (hb : b < 256) (hx : x < 256) (hy : y < 256) : (a + 256 * b + 65536 * c) &&& (x + 256 * y + 65536 * z) = (a &&& x) + 256 * (b &&& y) + 65536 * (c &&& z) := by
  rw [show a + 256 * b + 65536 * c = 2 ^ 8 * (2 ^ 8 * c + b) + a by omega, show x + 256 * y + 65536 * z = 2 ^ 8 * (2 ^ 8 * z + y) + x by omega, land_split (by omega) (by omega), land_split (by omega) (by omega)]
  omega
theorem bc_m1 : ∀ a : Nat, a < 128 → ∀ b, b < 2 → (a + 128 * b) &&& 85 = a &&& 85 := by decide +kernel
theorem bc_m2 : ∀ a : Nat, a < 64 → ∀ b, b < 4 → (a + 64 * b) &&& 51 = a &&& 51 := by decide +kernel
theorem bc_m4 : ∀ a : Nat, a < 256 → a &&& 15 = a % 16 := by decide +kernel
def bcF1 (x : Nat) : Nat := x - (x / 2 &&& 5592405)
def bcF2 (x : Nat) : Nat := (x &&& 3355443) + (x / 4 &&& 3355443)
def bcF3 (x : Nat) : Nat := (x + x / 16) &&& 986895
theorem bc_1 {a b c : Nat} (ha : a < 256) (hb : b < 256) (hc : c < 256) : bcF1 (a + 256 * b + 65536 * c) = bcP a + 256 * bcP b + 65536 * bcP c := by
  unfold bcF1
  rw [show (a + 256 * b + 65536 * c) / 2 = (a / 2 + 128 * (b % 2)) + 256 * (b / 2 + 128 * (c % 2)) + 65536 * (c / 2) by omega, show 5592405 = 85 + 256 * 85 + 65536 * 85 by decide,
    land3 (by omega) (by omega) (by omega) (by omega), bc_m1 _ (by omega) _ (by omega), bc_m1 _ (by omega) _ (by omega)]
  have h1 := (bc_byte a ha).2.2.2
  have h2 := (bc_byte b hb).2.2.2
  have h3 := (bc_byte c hc).2.2.2
  unfold bcP
  omega
theorem bc_2 {a b c : Nat} (ha : a < 256) (hb : b < 256) (_ : c < 256) : bcF2 (a + 256 * b + 65536 * c) = bcQ a + 256 * bcQ b + 65536 * bcQ c := by
  unfold bcF2
  rw [show (a + 256 * b + 65536 * c) / 4 = (a / 4 + 64 * (b % 4)) + 256 * (b / 4 + 64 * (c % 4)) + 65536 * (c / 4) by omega, show 3355443 = 51 + 256 * 51 + 65536 * 51 by decide,
    land3 (by omega) (by omega) (by omega) (by omega), land3 (by omega) (by omega) (by omega) (by omega), bc_m2 _ (by omega) _ (by omega), bc_m2 _ (by omega) _ (by omega)]
  unfold bcQ
  omega
theorem bc_3 {a b c : Nat} (ha : a ≤ 68 ∧ a % 16 ≤ 4) (hb : b ≤ 68 ∧ b % 16 ≤ 4) (hc : c ≤ 68 ∧ c % 16 ≤ 4) : bcF3 (a + 256 * b + 65536 * c) = bcR a + 256 * bcR b + 65536 * bcR c := by
  unfold bcF3
  rw [show (a + 256 * b + 65536 * c) + (a + 256 * b + 65536 * c) / 16 = (a + a / 16 + 16 * (b % 16)) + 256 * (b + b / 16 + 16 * (c % 16)) + 65536 * (c + c / 16) by omega, show 986895 = 15 + 256 * 15 + 65536 * 15 by decide,
    land3 (by omega) (by omega) (by omega) (by omega), bc_m4 _ (by omega), bc_m4 _ (by omega), bc_m4 _ (by omega)]
  unfold bcR
  omega
def bcG (x : Nat) : Nat := (x + x / 256) + (x + x / 256) / 65536
theorem bc_4 {a b c : Nat} (ha : a ≤ 8) (hb : b ≤ 8) (hc : c ≤ 8) : bcG (a + 256 * b + 65536 * c) % 64 = a + b + c := by
  unfold bcG
  rw [show (a + 256 * b + 65536 * c) / 256 = b + 256 * c by omega, show (a + 256 * b + 65536 * c + (b + 256 * c)) / 65536 = c by omega]
  omega
theorem bcOnes_add : ∀ (k j a m : Nat), a < 2 ^ k → bcOnes (k + j) (a + 2 ^ k * m) = bcOnes k a + bcOnes j m
  | 0, j, a, m, h => by
    have h : a < 1 := h
    rw [show a + 2 ^ 0 * m = m by omega, Nat.zero_add]
    simp [bcOnes]
  | k + 1, j, a, m, h => by
    rw [Nat.pow_succ] at h ⊢
    rw [show k + 1 + j = (k + j) + 1 by omega, bcOnes, bcOnes, show (a + 2 ^ k * 2 * m) / 2 = a / 2 + 2 ^ k * m by rw [Nat.mul_comm (2 ^ k) 2, Nat.mul_assoc]; omega, bcOnes_add k j (a / 2) m (by omega), show (a + 2 ^ k * 2 * m) % 2 = a % 2 by rw [Nat.mul_comm (2 ^ k) 2, Nat.mul_assoc]; omega]
    omega
def bcN (n : Nat) : Nat := bcG (bcF3 (bcF2 (bcF1 n))) % 64
/-- the formula counts the ones -/
theorem bc_ok {n : Nat} (h : n < 16777216) : bcN n = bcOnes 24 n := by
  obtain ⟨a, b, c, ha, hb, hc, rfl⟩ : ∃ a b c, a < 256 ∧ b < 256 ∧ c < 256 ∧ n = a + 256 * b + 65536 * c := ⟨n % 256, n / 256 % 256, n / 65536, by omega, by omega, by omega, by omega⟩
  unfold bcN
  rw [bc_1 ha hb hc, bc_2 (bc_byte a ha).2.1 (bc_byte b hb).2.1 (bc_byte c hc).2.1, bc_3 (bc_q4 a ha).1 (bc_q4 b hb).1 (bc_q4 c hc).1, bc_4 (bc_q4 a ha).2 (bc_q4 b hb).2 (bc_q4 c hc).2, (bc_byte a ha).1, (bc_byte b hb).1, (bc_byte c hc).1]
  rw [show a + 256 * b + 65536 * c = a + 2 ^ 8 * (b + 2 ^ 8 * c) by omega, bcOnes_add 8 16 a _ (by omega), bcOnes_add 8 8 b c (by omega)]
  omega
theorem bcOnes_0 : ∀ k, bcOnes k 0 = 0
  | 0 => rfl
  | k + 1 => by rw [bcOnes, Nat.zero_div, bcOnes_0 k]
/-! its bounds, for the ints -/
theorem bc_lt {n : Nat} (h : n < 16777216) : n / 2 &&& 5592405 ≤ n ∧ bcF1 n < 16777216 ∧ bcF2 (bcF1 n) < 16777216 ∧ bcF3 (bcF2 (bcF1 n)) < 16777216 := by
  obtain ⟨a, b, c, ha, hb, hc, rfl⟩ : ∃ a b c, a < 256 ∧ b < 256 ∧ c < 256 ∧ n = a + 256 * b + 65536 * c := ⟨n % 256, n / 256 % 256, n / 65536, by omega, by omega, by omega, by omega⟩
  refine ⟨?_, ?_, ?_, ?_⟩
  · exact Nat.le_trans Nat.and_le_left (by omega)
  · unfold bcF1; omega
  · have a1 := (bc_q4 a ha).1
    have b1 := (bc_q4 b hb).1
    have c1 := (bc_q4 c hc).1
    rw [bc_1 ha hb hc, bc_2 (bc_byte a ha).2.1 (bc_byte b hb).2.1 (bc_byte c hc).2.1]
    omega
  · exact Nat.lt_of_le_of_lt Nat.and_le_right (by omega)
