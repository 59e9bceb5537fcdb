/-! ===== class and reference: who is on call ===== -/
theorem nI_nneg {j : Nat} (hj : j < 2147483648) : ¬ nI j < 0 := by
  rw [show (0 : Int32) = nI 0 from kn_0, na_lt rfl rfl hj (by omega)]; omega
theorem rep_pick {v : mV} {h : Nat} {σ : Nat → Int32} {d0 : Int32} (hR : Rep v h σ d0) {j : Nat} (hj : j < 3) {t lv : Int32} {T l sh m : Nat} (hT : T ≤ 100000) (et : t = nI T) (hl : l ≤ 100000) (el : lv = nI l) (s1 : 1 ≤ sh) (s2 : sh ≤ 24) (es : σ (56 + 9 * j + 2) = nI sh) (m1 : 1 ≤ m) (m5 : m ≤ 5) (em : σ (56 + 9 * j + 3) = nI m) :
    rsPick v (h + (21 + 3 * j)) t lv = σ (56 + 9 * j + (4 + (mPlace σ j t lv).toNatClampNeg)) := by
  obtain ⟨-, -, d3, d4, d5⟩ := hR.2.2.2.1 j hj
  have hp : mPlace σ j t lv = nI ((T / 60 / sh + l) % m) := by
    unfold mPlace
    rw [es, em]
    exact mPlace_of hT et hl el s1 s2 m1 m5
  have hpm : (T / 60 / sh + l) % m < m := Nat.mod_lt _ (by omega)
  unfold rsPick
  rw [d3, d4, if_neg (by rw [es, na_lt rfl kn_1 (by omega) (by omega)]; omega), if_neg (by rw [em, na_lt rfl kn_1 (by omega) (by omega)]; omega)]
  show rgMember _ _ (mPlace σ j t lv) = _
  rw [hp, nI_clamp (show (T / 60 / sh + l) % m < 2 ^ 31 by omega), em]
  unfold rgMember
  rw [if_neg (nI_nneg (by omega)), if_pos ((na_lt rfl rfl (by omega) (by omega)).mpr hpm), if_pos ((na_lt rfl kn_5 (by omega) (by omega)).mpr (by omega)), nI_clamp (show (T / 60 / sh + l) % m < 2 ^ 31 by omega)]
  exact d5 _ (by omega)
theorem mStLp_snoc (σ : Nat → Int32) (rg t : Int32) : ∀ (r i : Nat) (f : Int32), mStLp σ rg t (r + 1) i f = if σ (83 + 3 * (i + r)) = rg then (if t < σ (83 + 3 * (i + r) + 2) then σ (83 + 3 * (i + r) + 1) else mStLp σ rg t r i f) else mStLp σ rg t r i f
  | 0, i, f => rfl
  | r + 1, i, f => by
    rw [mStLp, mStLp_snoc σ rg t r (i + 1), show i + 1 + r = i + (r + 1) by omega]
    rfl
theorem rep_stand {v : mV} {h : Nat} {σ : Nat → Int32} {d0 : Int32} (hR : Rep v h σ d0) (hI : MI σ) (rg t d : Int32) : ∀ r : Nat, r ≤ 6 → rsStandLp v h rg t d r = if mStLp σ rg t r 0 (-1) < 0 then d else mStLp σ rg t r 0 (-1)
  | 0, _ => by
    show d = if (-1 : Int32) < 0 then d else -1
    rw [if_pos (by decide)]
  | r + 1, hr => by
    obtain ⟨a, b, c⟩ := hR.2.2.2.2.1 r (by omega)
    obtain ⟨p, hp, ep⟩ := hI.2.2.2.2.2.2.1 r (by omega)
    rw [mStLp_snoc, Nat.zero_add, rsStandLp, a, b, c, rep_stand hR hI rg t d r (by omega)]
    by_cases h1 : σ (83 + 3 * r) = rg
    · rw [if_pos h1, if_pos h1]
      by_cases h2 : t < σ (83 + 3 * r + 2)
      · rw [if_pos h2, if_pos h2, if_neg (by rw [ep]; exact nI_nneg (by omega))]
      · rw [if_neg h2, if_neg h2]
    · rw [if_neg h1, if_neg h1]
theorem rep_person {v : mV} {h : Nat} {σ : Nat → Int32} {d0 : Int32} (hR : Rep v h σ d0) (hI : MI σ) {t lv : Int32} {T l : Nat} (hT : T ≤ 100000) (et : t = nI T) (hl : l ≤ 100000) (el : lv = nI l) : rsPersonAt v h (mRegion σ t) t lv = mPerson σ t lv := by
  unfold rsPersonAt mPerson
  by_cases h0 : mRegion σ t < 0
  · rw [if_pos h0, if_pos h0]
  · obtain ⟨j, hj, ej, ⟨sh, s1, s2, es⟩, m, m1, m5, em⟩ := mRegion_pos hI h0
    obtain ⟨O, hO, eO⟩ := hI.2.2.2.1
    have hp := rep_pick hR hj hT et hl el s1 s2 es m1 m5 em
    rw [if_neg h0, if_neg h0, ej, if_pos ((na_lt rfl kn_3 (by omega) (by omega)).mpr hj), if_neg (by rw [el]; exact nI_nneg (by omega)), if_neg (by rw [et]; exact nI_nneg (by omega)), nI_clamp (show j < 2 ^ 31 by omega), hp, hR.1.1.2.2, eO, nI_clamp (show O < 2 ^ 31 by omega)]
    by_cases hz : lv = 0
    · rw [if_pos hz, if_pos hz, rep_stand hR hI _ _ _ O hO]
    · rw [if_neg hz, if_neg hz, if_pos (by decide)]
theorem rsPick_c {v w : mV} {k : Nat} {t lv : Int32} (h0 : w k = v k) (h2 : w (k + 2) = v (k + 2)) : rsPick w k t lv = rsPick v k t lv := by
  unfold rsPick
  rw [h0, h2]
theorem rsStandLp_c {v w : mV} {h : Nat} {rg t d : Int32} : ∀ r : Nat, r ≤ 6 → (∀ c, c < 36 → w (h + c) = v (h + c)) → rsStandLp w h rg t d r = rsStandLp v h rg t d r
  | 0, _, _ => rfl
  | r + 1, hr, hw => by
    rw [rsStandLp, rsStandLp, hw (30 + r) (by omega), rsStandLp_c r (by omega) hw]
theorem rsPersonAt_c {v w : mV} {h : Nat} {rg t lv : Int32} (hO : (v (h + 1) 5).toNatClampNeg ≤ 6) (hw : ∀ c, c < 36 → w (h + c) = v (h + c)) : rsPersonAt w h rg t lv = rsPersonAt v h rg t lv := by
  unfold rsPersonAt
  by_cases h0 : rg < 0
  · rw [if_pos h0, if_pos h0]
  · rw [if_neg h0, if_neg h0]
    by_cases h3 : rg < 3
    · obtain ⟨j, hj, rfl⟩ := na_of kn_3 (by decide) h0 h3
      rw [if_pos h3, if_pos h3, nI_clamp (show j < 2 ^ 31 by omega), rsPick_c (hw (21 + 3 * j) (by omega)) (by rw [Nat.add_assoc]; exact hw (21 + 3 * j + 2) (by omega)), hw 1 (by omega), rsStandLp_c _ hO hw]
    · rw [if_neg h3, if_neg h3]
theorem i32_nat (x : Int32) : ∃ n, n < 4294967296 ∧ x = nI n := by
  refine ⟨x.toUInt32.toNat, x.toUInt32.toNat_lt, ?_⟩
  show x = (UInt32.ofNat x.toUInt32.toNat).toInt32
  rw [UInt32.ofNat_toNat]
  rfl
theorem and1_01 (x : Int32) : x &&& 1 = 0 ∨ x &&& 1 = 1 := by
  obtain ⟨n, hn, rfl⟩ := i32_nat x
  rw [show (1 : Int32) = nI 1 from kn_1, nI_and, show (1 : Nat) = 2 ^ 1 - 1 by decide, Nat.and_two_pow_sub_one_eq_mod]
  rcases Nat.mod_two_eq_zero_or_one n with h | h
  · left
    rw [show n % 2 ^ 1 = 0 from h]; exact kn_0.symm
  · right
    rw [show n % 2 ^ 1 = 1 from h]
theorem sleeps_none {ex f t x y z : Int32} : (if y = 0 then (if fHas f t z = 0 then (0 : Int32) else if (if (ex >>> (x &&& 31)) &&& 1 = 1 then (1 : Int32) else 0) = 0 then 1 else 0) else 0) = fSleeps ex f t x y z := by
  unfold fSleeps
  by_cases hy : y = 0
  · rw [if_pos hy, if_pos hy]
    rcases and1_01 (ex >>> (x &&& 31)) with h1 | h1
    · rw [h1, if_neg (show ¬ (0 : Int32) = 1 by decide), if_pos rfl, if_pos rfl]
    · rw [h1, if_pos rfl, if_neg (show ¬ (1 : Int32) = 0 by decide), if_neg (show ¬ (1 : Int32) = 0 by decide)]
      split <;> rfl
  · rw [if_neg hy, if_neg hy]
/-! paging -/
theorem mRegion_c {σ τ : Nat → Int32} (h1 : τ 1 = σ 1) (hI : MI σ) (hq : ∀ q, 56 ≤ q → q < 83 → τ q = σ q) (t : Int32) : mRegion τ t = mRegion σ t := by
  obtain ⟨R, r1, r2⟩ := MI_R hI
  have hL : ∀ (r i : Nat) (hr : Int32), i + r ≤ 3 → mRegLp τ hr r i = mRegLp σ hr r i := by
    intro r
    induction r with
    | zero => intro i hr _; rfl
    | succ r ih =>
      intro i hr hi
      rw [mRegLp, mRegLp, hq _ (by omega) (by omega), hq _ (by omega) (by omega), hq _ (by omega) (by omega), ih (i + 1) hr (by omega)]
  unfold mRegion
  rw [h1, r2, nI_clamp (show R < 2 ^ 31 by omega)]
  exact hL R 0 _ (by omega)
/-- a change in one incident, one person and the scalars -/
theorem Rep_ch {v w : mV} {h : Nat} {σ τ : Nat → Int32} {d0 : Int32} (hR : Rep v h σ d0) (hS : RS w h τ) (hA : RA w h τ d0) (hP : ∀ i, i < 8 → RP w h τ i) (hw : ∀ c, 21 ≤ c → c < 36 → w (h + c) = v (h + c)) (hs : ∀ q, 56 ≤ q → q < 101 → τ q = σ q) (hI : ∀ i, i < 8 → RI w h τ i) : Rep w h τ d0 :=
  ⟨hS, hA, hP, fun k hk => RR_c (hR.2.2.2.1 k hk) (hw _ (by omega) (by omega)) (by rw [Nat.add_assoc]; exact hw _ (by omega) (by omega)) (by rw [Nat.add_assoc]; exact hw _ (by omega) (by omega)) (fun d hd => hs _ (by omega) (by omega)), fun k hk => RT_c (hR.2.2.2.2.1 k hk) (hw _ (by omega) (by omega)) (fun d hd => hs _ (by omega) (by omega)), hI⟩
theorem pgA_o' {v : mV} {k : Nat} {rg : Int32} {c : Nat} (h : c ≠ k) : pgA v k rg c = v c := pgA_o h
theorem rep_pgA {v : mV} {h i : Nat} {σ : Nat → Int32} {rg : Int32} {d0 : Int32} (hR : Rep v h σ d0) (hi : i < 8) (hrg : rg = mRegion σ (σ 2)) : Rep (pgA v (h + (38 + i)) rg) h (mPage3 σ i 0) d0 := by
  have hq : ∀ q, q < 101 → mPage3 σ i 0 q = σ q := fun q hq => by
    unfold mPage3
    rw [upd_o (by omega), upd_o (by omega), upd_o (by omega)]
  obtain ⟨⟨⟨a1, a2, a3⟩, ⟨b1, b2, b3⟩, c1, c2, c3, c4, c5, c6, c7, c8, c9⟩, hA, hP, hRR, hT, hI⟩ := hR
  refine Rep_ch ⟨⟨⟨a1, a2, a3⟩, ⟨b1, b2, b3⟩, c1, c2, c3, c4, c5, c6, c7, c8, c9⟩, hA, hP, hRR, hT, hI⟩ ⟨⟨?_, ?_, ?_⟩, ⟨?_, ?_, ?_⟩, ?_, ?_, ?_, ?_, ?_, ?_, ?_, ?_, ?_⟩ ?_ (fun j hj => ?_) (fun c h1 h2 => ?_) (fun q h1 h2 => ?_) (fun j hj => ?_)
  · rw [pgA_o (by omega), hq _ (by omega)]; exact a1
  · rw [pgA_o (by omega), hq _ (by omega)]; exact a2
  · rw [pgA_o (by omega), hq _ (by omega)]; exact a3
  · rw [pgA_o (by omega), hq _ (by omega)]; exact b1
  · rw [pgA_o (by omega), hq _ (by omega)]; exact b2
  · rw [pgA_o (by omega), hq _ (by omega)]; exact b3
  · rw [pgA_o (by omega), hq _ (by omega)]; exact c1
  · rw [pgA_o (by omega), hq _ (by omega)]; exact c2
  · rw [pgA_o (by omega), hq _ (by omega)]; exact c3
  · rw [pgA_o (by omega), hq _ (by omega)]; exact c4
  · rw [pgA_o (by omega), hq _ (by omega)]; exact c5
  · rw [pgA_o (by omega), hq _ (by omega)]; exact c6
  · rw [pgA_o (by omega), hq _ (by omega)]; exact c7
  · rw [pgA_o (by omega), hq _ (by omega)]; exact c8
  · rw [pgA_o (by omega), hq _ (by omega)]; exact c9
  · show pgA v (h + (38 + i)) rg (h + 37) 7 + d0 = mAll (mPage3 σ i 0)
    rw [pgA_o (by omega), mAll_c (hq 10 (by omega)) (hq 2 (by omega)) (fun j hj => by unfold mPage3; constructor <;> intros <;> rw [upd_o (by omega), upd_o (by omega), upd_o (by omega)])]
    exact hA
  · exact RP_c (hP j hj) (pgA_o (by omega)) (pgA_o (by omega)) (fun d hd => hq _ (by omega))
  · exact pgA_o (by omega)
  · exact hq q (by omega)
  · by_cases hj1 : j = i
    · subst hj1
      obtain ⟨e0, e1⟩ := hI j hj
      unfold pgA mPage3
      refine ⟨?_, fun ho => ?_⟩
      · simp (disch := omega) only [u2_r, upd_o]; exact e0
      · simp (disch := omega) only [upd_o] at ho
        obtain ⟨⟨f1, f2, f3, f4, f5, f6, f7⟩, g1, g2, g3, g4, g5, g6⟩ := e1 ho
        refine ⟨⟨?_, ?_, ?_, ?_, ?_, ?_, ?_⟩, ?_, ?_, ?_, ?_, ?_, ?_⟩
        all_goals simp (disch := omega) only [u2_r, upd_o, upd_r]
        all_goals first | assumption | decide
    · exact RI_c (hI j hj) (pgA_o (by omega)) (fun d hd => by unfold mPage3; rw [upd_o (by omega), upd_o (by omega), upd_o (by omega)])
theorem rep_page {v : mV} {h i : Nat} {σ : Nat → Int32} {rg : Int32} {d0 : Int32} (hR : Rep v h σ d0) (hI : MI σ) (hi : i < 8) (ho : σ (101 + 16 * i) = 1) (hrg : rg = mRegion σ (σ 2)) : Rep (hsPage v h i rg) h (mPage σ i) d0 := by
  obtain ⟨T, hT, eT, hlv⟩ := hI.2.2.1
  obtain ⟨l0, hl0, el⟩ := hlv i hi
  obtain ⟨O, hO, eO⟩ := hI.2.2.2.1
  have hw := mPerson_or hI (T := T) (l := l0) (by omega) eT (by omega) el
  have hA := rep_pgA hR hi hrg
  have hri := (hR.2.2.2.2.2 i hi).2 ho
  have e3 : v (h + (38 + i)) 3 = σ (101 + 16 * i + 3) := hri.1.2.2.1
  have e1 : v (h + (38 + i)) 1 = σ (101 + 16 * i + 1) := hri.1.1
  have e2 : v (h + (38 + i)) 2 = σ (101 + 16 * i + 2) := hri.1.2.1
  have et : v h 3 = σ 2 := hR.1.2.1.1
  have hper : rsPersonAt (pgA v (h + (38 + i)) rg) h rg (v h 3) (v (h + (38 + i)) 3) = mPerson σ (σ 2) (σ (101 + 16 * i + 3)) := by
    rw [rsPersonAt_c (v := v) (by rw [hR.1.1.2.2, eO, nI_clamp (show O < 2 ^ 31 by omega)]; exact hO) (fun c hc => pgA_o (by omega)), et, e3, hrg]
    exact rep_person hR hI (T := T) (l := l0) (by omega) eT (by omega) el
  unfold hsPage mPage
  rw [hper]
  unfold hsPageP mPageW
  rcases hw with e | ⟨p, hp, e⟩
  · rw [e, if_pos (show (-1 : Int32) < 0 by decide), if_neg]
    · exact hA
    · unfold mNone
      rw [if_pos (show (-1 : Int32) < 0 by decide)]
      decide
  · have hn : mNone σ i (nI p) = fSleeps (v (h + (5 + 2 * p)) 1) (v (h + (5 + 2 * p) + 1) 0) (v (h + (5 + 2 * p) + 1) 1) (v (h + (38 + i)) 1) (v (h + (38 + i)) 2) (fHour (v h 3)) := by
      obtain ⟨p1, p2, p3, -, -⟩ := hR.2.2.1 p hp
      rw [p1, p2, p3, e1, e2, et, ← sleeps_none]
      unfold mNone mExc
      rw [if_neg (nI_nneg (by omega)), nI_clamp (show p < 2 ^ 31 by omega)]
    rw [e, if_neg (nI_nneg (by omega)), if_pos ((na_lt rfl kn_8 (by omega) (by omega)).mpr hp), nI_clamp (show p < 2 ^ 31 by omega), hn]
    by_cases hs : fSleeps (v (h + (5 + 2 * p)) 1) (v (h + (5 + 2 * p) + 1) 0) (v (h + (5 + 2 * p) + 1) 1) (v (h + (38 + i)) 1) (v (h + (38 + i)) 2) (fHour (v h 3)) = 0
    · rw [if_pos hs, if_pos hs]
      obtain ⟨⟨⟨a1, a2, a3⟩, ⟨b1, b2, b3⟩, c1, c2, c3, c4, c5, c6, c7, c8, c9⟩, hAA, hP, hRR, hTT, hII⟩ := hA
      have q0 : ∀ q, q < 101 → mPage3 σ i (nI p + 1) q = mPage3 σ i 0 q := fun q hq => by
        unfold mPage3
        rw [upd_o (by omega), upd_o (by omega), upd_o (by omega), upd_o (by omega), upd_o (by omega), upd_o (by omega)]
      have q2 : ∀ q, q < 101 → mPage3 σ i 0 q = σ q := fun q hq => by
        unfold mPage3
        rw [upd_o (by omega), upd_o (by omega), upd_o (by omega)]
      have v37 : pgA v (h + (38 + i)) rg (h + 37) = v (h + 37) := pgA_o (by omega)
      have vp : pgA v (h + (38 + i)) rg (h + (5 + 2 * p)) = v (h + (5 + 2 * p)) := pgA_o (by omega)
      refine Rep_ch ⟨⟨⟨a1, a2, a3⟩, ⟨b1, b2, b3⟩, c1, c2, c3, c4, c5, c6, c7, c8, c9⟩, hAA, hP, hRR, hTT, hII⟩ ⟨⟨?_, ?_, ?_⟩, ⟨?_, ?_, ?_⟩, ?_, ?_, ?_, ?_, ?_, ?_, ?_, ?_, ?_⟩ ?_ (fun j hj => ?_) (fun c h1 h2 => ?_) (fun q h1 h2 => ?_) (fun j hj => ?_)
      · simp (disch := omega) only [u2_o, upd_o, q0]; exact a1
      · simp (disch := omega) only [u2_o, upd_o, q0]; exact a2
      · simp (disch := omega) only [u2_o, upd_o, q0]; exact a3
      · simp (disch := omega) only [u2_o, upd_o, q0]; exact b1
      · simp (disch := omega) only [u2_o, upd_o, q0]; exact b2
      · simp (disch := omega) only [u2_o, upd_o, q0]; exact b3
      · simp (disch := omega) only [u2_o, u2_r, upd_o, q0]; exact c1
      · simp (disch := omega) only [u2_o, u2_r, upd_o, q0]; exact c2
      · simp (disch := omega) only [u2_o, u2_r, upd_o, upd_r, q0]
        rw [← hR.1.2.2.2.2.1]
      · simp (disch := omega) only [u2_o, u2_r, upd_o, q0]; exact c4
      · simp (disch := omega) only [u2_o, u2_r, upd_o, q0]; exact c5
      · simp (disch := omega) only [u2_o, u2_r, upd_o, q0]; exact c6
      · simp (disch := omega) only [u2_o, u2_r, upd_o, q0]; exact c7
      · simp (disch := omega) only [u2_o, u2_r, upd_o, q0]; exact c8
      · simp (disch := omega) only [u2_o, u2_r, upd_o, q0]; exact c9
      · unfold RA
        simp (disch := omega) only [u2_o, u2_r, upd_o]
        rw [show pgA v (h + (38 + i)) rg (h + 37) 7 + d0 = mAll (mPage3 σ i 0) from hAA]
        refine (mAll_c ?_ ?_ (fun j hj => ⟨?_, fun _ => ?_⟩)).symm
        · simp (disch := omega) only [upd_o, q0]
        · simp (disch := omega) only [upd_o, q0]
        · unfold mPage3; simp (disch := omega) only [upd_o]
        · unfold mPage3; simp (disch := omega) only [upd_o]
      · obtain ⟨d1, d2, d3, d4, d5⟩ := hP j hj
        by_cases hjp : j = p
        · subst hjp
          obtain ⟨r1, r2, r3, r4, r5⟩ := hR.2.2.1 j hj
          refine ⟨?_, ?_, ?_, ?_, ?_⟩
          · simp (disch := omega) only [u2_o, u2_r, upd_o, upd_r, q0]; exact d1
          · simp (disch := omega) only [u2_o, u2_r, upd_o, upd_r, q0]; exact d2
          · simp (disch := omega) only [u2_o, u2_r, upd_o, upd_r, q0]; exact d3
          · simp (disch := omega) only [u2_o, u2_r, upd_o, upd_r, q0]; rw [r4]
          · simp (disch := omega) only [u2_o, u2_r, upd_o, upd_r, q0]; exact d5
        · refine RP_c (hP j hj) ?_ ?_ (fun d hd => ?_)
          · simp (disch := omega) only [u2_o]
          · simp (disch := omega) only [u2_o]
          · simp (disch := omega) only [upd_o, q0]
      · simp (disch := omega) only [u2_o]
      · simp (disch := omega) only [upd_o, q0, q2]
      · by_cases hj1 : j = i
        · subst hj1
          obtain ⟨x0, x1⟩ := hR.2.2.2.2.2 j hj
          unfold pgA mPage3
          refine ⟨?_, fun _ => ?_⟩
          · simp (disch := omega) only [u2_o, u2_r, upd_o]; exact x0
          · obtain ⟨⟨f1, f2, f3, f4, f5, f6, f7⟩, g1, g2, g3, g4, g5, g6⟩ := hri
            refine ⟨⟨?_, ?_, ?_, ?_, ?_, ?_, ?_⟩, ?_, ?_, ?_, ?_, ?_, ?_⟩
            · simp (disch := omega) only [u2_o, u2_r, upd_o, upd_r]; exact f1
            · simp (disch := omega) only [u2_o, u2_r, upd_o, upd_r]; exact f2
            · simp (disch := omega) only [u2_o, u2_r, upd_o, upd_r]; exact f3
            · simp (disch := omega) only [u2_o, u2_r, upd_o, upd_r]
              rw [nI_1, nI_pred]
            · simp (disch := omega) only [u2_o, u2_r, upd_o, upd_r]; exact hrg
            · simp (disch := omega) only [u2_o, u2_r, upd_o, upd_r]
              rw [if_neg (by decide)]; exact et
            · simp (disch := omega) only [u2_o, u2_r, upd_o, upd_r]
            · simp (disch := omega) only [u2_o, u2_r, upd_o, upd_r]; exact g1
            · simp (disch := omega) only [u2_o, u2_r, upd_o, upd_r]; exact g2
            · simp (disch := omega) only [u2_o, u2_r, upd_o, upd_r]; exact g3
            · simp (disch := omega) only [u2_o, u2_r, upd_o, upd_r]; exact g4
            · simp (disch := omega) only [u2_o, u2_r, upd_o, upd_r]; exact g5
            · simp (disch := omega) only [u2_o, u2_r, upd_o, upd_r]; exact g6
        · refine RI_c (hR.2.2.2.2.2 j hj) ?_ (fun d hd => ?_)
          · simp (disch := omega) only [u2_o]; exact pgA_o (by omega)
          · unfold mPage3; simp (disch := omega) only [upd_o]
    · rw [if_neg hs, if_neg hs]
      exact hA
