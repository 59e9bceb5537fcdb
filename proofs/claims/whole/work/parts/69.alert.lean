/-! ===== class and reference: alerts ===== -/
theorem IN_page {ρ : Nat → Int32} {T B i : Nat} (hN : IN ρ T B) (hi : i < 8) (ho : ρ (101 + 16 * i) = 1) : IN (mPage ρ i) T B := by
  have hI := hN.1.2.1.1
  have k1 : K1 ρ (mPage ρ i) i := mPage_K1 hI hi ⟨fun _ _ _ _ _ _ _ => rfl, fun _ _ _ => rfl, rfl, rfl⟩
  obtain ⟨a, w, q1, q2, q3, q4⟩ := hN.2.2.1
  exact IN_i hN (MT_page hN.1.2.1 hi) hi (fun q h1 h2 h3 => by
    by_cases hq : q < 101
    · exact k1.1 q hq (by omega) (by omega) (by omega) (by omega) (fun w hw => (h3 w hw).1)
    · exact k1.2.1 q (by omega) (by omega)) (Or.inr (k1.2.2.1.trans ho)) (fun _ => IX_page (σ := ρ) hI hi hN.1.2.1.2.1 ((hN.1.2.2.2 i hi ho).1)) ⟨a, w, (k1.1 12 (by omega) (by omega) (by omega) (by omega) (by omega) (by omega)).trans q1, q2, (k1.1 11 (by omega) (by omega) (by omega) (by omega) (by omega) (by omega)).trans q3, q4⟩ (mPage_t hI hi (by omega) (by omega)) (K2_all (K1_2 k1))
theorem rep_fold {v : mV} {h i : Nat} {σ : Nat → Int32} {y : Int32} (hR : Rep v h σ 0) (hi : i < 8) (ho : σ (101 + 16 * i) = 1) : Rep (hsFold v h i y).2 h (mFold σ i y) 0 := by
  obtain ⟨c1, c2, c3, c4, c5, c6, c7, c8, c9⟩ := hR.1.2.2
  obtain ⟨b1, b2, b3⟩ := hR.1.2.1
  obtain ⟨x0, x1⟩ := hR.2.2.2.2.2 i hi
  obtain ⟨⟨f1, f2, f3, f4, f5, f6, f7⟩, g1, g2, g3, g4, g5, g6⟩ := x1 ho
  have hA : ∀ z, mAll (upd (upd (upd (upd (upd σ (101 + 16 * i + 2) z) (101 + 16 * i + 8) (σ 2)) (101 + 16 * i + 6) (σ (101 + 16 * i + 6) + 1)) 3 (σ 3 + 1)) 4 (σ 4 + 1)) = mAll σ := fun z => mAll_c (by simp (disch := omega) only [upd_o]) (by simp (disch := omega) only [upd_o]) (fun j hj => ⟨by simp (disch := omega) only [upd_o], fun _ => by simp (disch := omega) only [upd_o]⟩)
  unfold hsFold mFold hsFold0
  rw [f2]
  by_cases hc : σ (101 + 16 * i + 2) < y
  · rw [if_pos hc, if_pos hc]
    refine Rep_i hR hi (fun c h1 h2 => ?_) (fun q h1 h2 => ?_) ⟨?_, ?_, ?_, ?_, ?_, ?_, ?_, ?_, ?_⟩ ?_ ⟨?_, fun _ => ⟨⟨?_, ?_, ?_, ?_, ?_, ?_, ?_⟩, ?_, ?_, ?_, ?_, ?_, ?_⟩⟩
    case refine_12 =>
      unfold RA
      rw [hA]
      simp (disch := omega) only [u2_o, u2_r, upd_o, upd_r]
      exact hR.2.1
    all_goals simp (disch := omega) only [u2_o, u2_r, upd_o, upd_r]
    all_goals first | assumption | (rw [c1]) | (rw [c2]) | (rw [g1])
  · rw [if_neg hc, if_neg hc]
    refine Rep_i hR hi (fun c h1 h2 => ?_) (fun q h1 h2 => ?_) ⟨?_, ?_, ?_, ?_, ?_, ?_, ?_, ?_, ?_⟩ ?_ ⟨?_, fun _ => ⟨⟨?_, ?_, ?_, ?_, ?_, ?_, ?_⟩, ?_, ?_, ?_, ?_, ?_, ?_⟩⟩
    case refine_12 =>
      unfold RA
      rw [hA]
      simp (disch := omega) only [u2_o, u2_r, upd_o, upd_r]
      exact hR.2.1
    all_goals simp (disch := omega) only [u2_o, u2_r, upd_o, upd_r]
    all_goals first | assumption | (rw [c1]) | (rw [c2]) | (rw [g1])
theorem IN_fold {σ : Nat → Int32} {T B i : Nat} {y : Int32} (hN : IN σ T B) (hi : i < 8) (ho : σ (101 + 16 * i) = 1) : IN (mFold σ i y) T B := by
  obtain ⟨a, w, q1, q2, q3, q4⟩ := hN.2.2.1
  obtain ⟨x1, x2, x3⟩ := hN.1.2.2.2 i hi ho
  refine IN_i hN (MT_fold hN.1.2.1) hi (fun q h1 h2 h3 => ?_) ?_ (fun _ => ⟨?_, ?_, fun hp => ?_⟩) ⟨a, w, ?_, q2, ?_, q4⟩ ?_ (mAll_c ?_ ?_ (fun j hj => ⟨?_, fun _ => ?_⟩))
  all_goals unfold mFold at *
  all_goals simp (disch := omega) only [upd_o, upd_r] at *
  · exact Or.inr ho
  · exact x1
  · exact x2
  · exact x3 hp
  · exact q1
  · exact q3
theorem rep_folLp {v : mV} {h : Nat} {σ : Nat → Int32} {T B : Nat} (hR : Rep v h σ 0) (hN : IN σ T B) (c sv : Int32) : ∀ r i, i + r = 8 → (mFolLp σ c r i = -1 ∧ hsFoldLp v h c sv r i = hsNewLp v h c sv 8 0) ∨ ∃ j, j < 8 ∧ σ (101 + 16 * j) = 1 ∧ mFolLp σ c r i = nI j ∧ hsFoldLp v h c sv r i = (nI j, if (hsFold v h j sv).1 = 0 then (hsFold v h j sv).2 else hsPage (hsFold v h j sv).2 h j (rsRegionAt (hsFold v h j sv).2 h (v h 3)))
  | 0, _, _ => Or.inl ⟨rfl, rfl⟩
  | r + 1, i, hi => by
    obtain ⟨x0, x1⟩ := hR.2.2.2.2.2 i (by omega)
    have ih := rep_folLp hR hN c sv r (i + 1) (by omega)
    rcases hN.1.2.2.1 i (by omega) with ho | ho
    · have e1 : mFolLp σ c (r + 1) i = mFolLp σ c r (i + 1) := by rw [mFolLp, if_pos ((mInc_nI0 (show i < 8 by omega)).mpr (by rw [ho]; decide))]
      have e2 : hsFoldLp v h c sv (r + 1) i = hsFoldLp v h c sv r (i + 1) := by rw [hsFoldLp, if_pos (x0.trans ho)]
      rw [e1, e2]; exact ih
    · obtain ⟨⟨f1, f2, f3, f4, f5, f6, f7⟩, g1, g2, g3, g4, g5, g6⟩ := x1 ho
      have n1 : ¬ mInc σ (nI i) = 0 := fun z => (mInc_nI0 (show i < 8 by omega)).mp z ho
      have n2 : ¬ v (h + (38 + i)) 0 = 0 := by rw [x0, ho]; decide
      by_cases hc : σ (101 + 16 * i + 1) = c
      · have hv : v (h + (38 + i)) 1 = c := f1.trans hc
        by_cases hl : σ 14 < σ 2 - σ (101 + 16 * i + 8)
        · have hl2 : v h 5 < v h 3 - v (h + (38 + i)) 10 := by rw [g3, hR.1.2.1.1, hR.1.2.1.2.2]; exact hl
          have e1 : mFolLp σ c (r + 1) i = mFolLp σ c r (i + 1) := by rw [mFolLp, if_neg n1, if_pos hc, if_pos hl]
          have e2 : hsFoldLp v h c sv (r + 1) i = hsFoldLp v h c sv r (i + 1) := by rw [hsFoldLp, if_neg n2, if_pos hv, if_pos hl2]
          rw [e1, e2]; exact ih
        · have hl2 : ¬ v h 5 < v h 3 - v (h + (38 + i)) 10 := by rw [g3, hR.1.2.1.1, hR.1.2.1.2.2]; exact hl
          have e1 : mFolLp σ c (r + 1) i = nI i := by rw [mFolLp, if_neg n1, if_pos hc, if_neg hl]
          refine Or.inr ⟨i, by omega, ho, e1, ?_⟩
          rw [hsFoldLp, if_neg n2, if_pos hv, if_neg hl2]
      · have hv : ¬ v (h + (38 + i)) 1 = c := by rw [f1]; exact hc
        have e1 : mFolLp σ c (r + 1) i = mFolLp σ c r (i + 1) := by rw [mFolLp, if_neg n1, if_neg hc]
        have e2 : hsFoldLp v h c sv (r + 1) i = hsFoldLp v h c sv r (i + 1) := by rw [hsFoldLp, if_neg n2, if_neg hv]
        rw [e1, e2]; exact ih
theorem mFree_char (σ : Nat → Int32) : ∀ (r : Nat) (f : Int32), r ≤ 8 → (∃ q, q < r ∧ ¬ σ (101 + 16 * q) = 1 ∧ (∀ q', q' < q → σ (101 + 16 * q') = 1) ∧ mFreeLp σ r f = nI q) ∨ ((∀ q, q < r → σ (101 + 16 * q) = 1) ∧ mFreeLp σ r f = f)
  | 0, f, _ => Or.inr ⟨fun q hq => absurd hq (by omega), rfl⟩
  | r + 1, f, hr => by
    rw [mFreeLp]
    rcases mFree_char σ r (if mInc σ (nI r) = 0 then nI r else f) (by omega) with ⟨q, q1, q2, q3, q4⟩ | ⟨q1, q2⟩
    · exact Or.inl ⟨q, by omega, q2, q3, q4⟩
    · by_cases ho : σ (101 + 16 * r) = 1
      · refine Or.inr ⟨fun q hq => ?_, by rw [q2, if_neg (fun z => (mInc_nI0 (show r < 8 by omega)).mp z ho)]⟩
        by_cases hqr : q = r
        · subst hqr; exact ho
        · exact q1 q (by omega)
      · exact Or.inl ⟨r, by omega, ho, q1, by rw [q2, if_pos ((mInc_nI0 (show r < 8 by omega)).mpr ho)]⟩
theorem hsNew_some {v : mV} {h q : Nat} {σ : Nat → Int32} (hR : Rep v h σ 0) (hB : IB σ) (hq : q < 8) (hc : ¬ σ (101 + 16 * q) = 1) (hb : ∀ q', q' < q → σ (101 + 16 * q') = 1) (c sv : Int32) : ∀ r i, i + r = 8 → i ≤ q → hsNewLp v h c sv r i = (nI q, hsPage (u2 (inNew v (h + (38 + q)) c sv (v h 3)) (h + 37) 0 (v (h + 37) 0 + 1)) h q (rsRegionAt (u2 (inNew v (h + (38 + q)) c sv (v h 3)) (h + 37) 0 (v (h + 37) 0 + 1)) h (v h 3)))
  | 0, i, hi, hiq => absurd hq (by omega)
  | r + 1, i, hi, hiq => by
    obtain ⟨x0, x1⟩ := hR.2.2.2.2.2 i (by omega)
    unfold hsNewLp
    rw [x0]
    by_cases hiq2 : i = q
    · subst hiq2
      rw [if_pos ((hB i hq).resolve_right hc)]
    · rw [if_neg (show ¬ σ (101 + 16 * i) = 0 by rw [hb i (by omega)]; decide)]
      exact hsNew_some hR hB hq hc hb c sv r (i + 1) (by omega) (by omega)
theorem hsNew_none {v : mV} {h : Nat} {σ : Nat → Int32} (hR : Rep v h σ 0) (hb : ∀ q', q' < 8 → σ (101 + 16 * q') = 1) (c sv : Int32) : ∀ r i, i + r = 8 → hsNewLp v h c sv r i = (-3, v)
  | 0, i, hi => rfl
  | r + 1, i, hi => by
    obtain ⟨x0, x1⟩ := hR.2.2.2.2.2 i (by omega)
    unfold hsNewLp
    rw [x0, if_neg (show ¬ σ (101 + 16 * i) = 0 by rw [hb i (by omega)]; decide)]
    exact hsNew_none hR hb c sv r (i + 1) (by omega)
theorem hsPage_5 {v : mV} {h i : Nat} {rg z : Int32} : hsPage (u2 v (h + (38 + i)) 5 z) h i rg = hsPage v h i rg := by
  have hp : pgA (u2 v (h + (38 + i)) 5 z) (h + (38 + i)) rg = pgA v (h + (38 + i)) rg := by
    funext q
    by_cases hq : q = h + (38 + i)
    · subst hq
      unfold pgA
      simp only [u2_r]
      funext j
      by_cases h5 : j = 5
      · subst h5; rw [upd_r, upd_r]
      · rw [upd_o h5, upd_o h5]
        by_cases h4 : j = 4
        · subst h4; rw [upd_r, upd_r]
        · rw [upd_o h4, upd_o h4]
          by_cases h7 : j = 7
          · subst h7; rw [upd_r, upd_r]
          · rw [upd_o h7, upd_o h7, upd_o h5]
    · rw [pgA_o hq, pgA_o hq, u2_o hq]
  have e : ∀ f, f ≠ 5 → u2 v (h + (38 + i)) 5 z (h + (38 + i)) f = v (h + (38 + i)) f := fun f hf => by rw [u2_r, upd_o hf]
  have o : ∀ c, c ≠ 38 + i → u2 v (h + (38 + i)) 5 z (h + c) = v (h + c) := fun c hc => u2_o (by omega)
  have o0 : u2 v (h + (38 + i)) 5 z h = v h := o 0 (by omega)
  unfold hsPage
  rw [hp, o0, e 3 (by omega)]
  unfold hsPageP
  rw [hp, o0, e 1 (by omega), e 2 (by omega)]
  generalize rsPersonAt (pgA v (h + (38 + i)) rg) h rg (v h 3) (v (h + (38 + i)) 3) = w
  by_cases h0 : w < 0
  · rw [if_pos h0, if_pos h0]
  · rw [if_neg h0, if_neg h0]
    by_cases h8 : w < 8
    · obtain ⟨p, hp8, rfl⟩ := na_of kn_8 (by decide) h0 h8
      rw [if_pos h8, if_pos h8, nI_clamp (show p < 2 ^ 31 by omega), o (5 + 2 * p) (by omega), Nat.add_assoc h (5 + 2 * p) 1, o (5 + 2 * p + 1) (by omega), o 37 (by omega)]
    · rw [if_neg h8, if_neg h8]
theorem mNew_o {σ : Nat → Int32} {j q : Nat} {x y : Int32} (h3 : q ≠ 3) (hq : q < 101 + 16 * j ∨ 101 + 16 * j + 16 ≤ q) : mNew σ j x y q = σ q := by
  unfold mNew
  simp (disch := omega) only [upd_o]
  exact mZeroLp_o 16 0 σ (by omega)
theorem mNew_z {σ : Nat → Int32} {j d : Nat} {x y : Int32} (hd : d < 16) (h : d ≠ 0 ∧ d ≠ 1 ∧ d ≠ 2 ∧ d ≠ 6 ∧ d ≠ 7 ∧ d ≠ 8) : mNew σ j x y (101 + 16 * j + d) = 0 := by
  unfold mNew
  simp (disch := omega) only [upd_o]
  exact mZeroLp_i 16 0 σ (by omega) (by omega)
theorem mNew_all {σ : Nat → Int32} {j : Nat} {x y : Int32} (hj : j < 8) (hc : ¬ σ (101 + 16 * j) = 1) : mAll (mNew σ j x y) = mAll σ := by
  have e0 : mNew σ j x y (101 + 16 * j) = 1 := by unfold mNew; simp (disch := omega) only [upd_o, upd_r]
  have e7 : mNew σ j x y (101 + 16 * j + 7) = σ 2 := by unfold mNew; simp (disch := omega) only [upd_o, upd_r]
  have e2 : mNew σ j x y 2 = σ 2 := mNew_o (by omega) (by omega)
  refine mAll_i hj e2 (fun k hk hkj => ⟨mNew_o (by omega) (by omega), mNew_o (by omega) (by omega)⟩) (fun a => ?_)
  rw [mAllN_o hj e0, mAllN_c hj hc, e7, e2, Int32.sub_self, show mNew σ j x y 10 = σ 10 from mNew_o (by omega) (by omega)]
theorem rep_new {v : mV} {h j : Nat} {σ : Nat → Int32} {x y : Int32} (hR : Rep v h σ 0) (hj : j < 8) (hc : ¬ σ (101 + 16 * j) = 1) : Rep (u2 (u2 (inNew v (h + (38 + j)) x y (v h 3)) (h + 37) 0 (v (h + 37) 0 + 1)) (h + (38 + j)) 5 0) h (mNew σ j x y) 0 := by
  obtain ⟨c1, c2, c3, c4, c5, c6, c7, c8, c9⟩ := hR.1.2.2
  have et : v h 3 = σ 2 := hR.1.2.1.1
  have hin : ∀ f, inNew v (h + (38 + j)) x y (v h 3) (h + (38 + j)) f = (if f = 0 then 1 else if f = 1 then x else if f = 2 then y else if f = 3 then 0 else if f = 4 then -1 else if f = 5 then -1 else if f = 6 then -1 else if f = 7 then 0 else if f = 8 then 1 else if f = 9 then v h 3 else if f = 10 then v h 3 else 0) := fun f => by unfold inNew; rw [if_pos rfl]
  have z3 : mNew σ j x y 3 = σ 3 + 1 := by unfold mNew; rw [upd_r]
  refine Rep_i hR hj (fun c h1 h2 => ?_) (fun q h1 h2 => mNew_o (by omega) h2) ⟨?_, ?_, ?_, ?_, ?_, ?_, ?_, ?_, ?_⟩ ?_ ⟨?_, fun _ => ⟨⟨?_, ?_, ?_, ?_, ?_, ?_, ?_⟩, ?_, ?_, ?_, ?_, ?_, ?_⟩⟩
  · rw [u2_o (by omega), u2_o (by omega), inNew_o (by omega)]
  · rw [u2_o (by omega), u2_r, upd_r, z3, c1]
  · rw [u2_o (by omega), u2_r, upd_o (by omega), inNew_o (by omega), mNew_o (by omega) (by omega)]; exact c2
  · rw [u2_o (by omega), u2_r, upd_o (by omega), inNew_o (by omega), mNew_o (by omega) (by omega)]; exact c3
  · rw [u2_o (by omega), u2_r, upd_o (by omega), inNew_o (by omega), mNew_o (by omega) (by omega)]; exact c4
  · rw [u2_o (by omega), u2_r, upd_o (by omega), inNew_o (by omega), mNew_o (by omega) (by omega)]; exact c5
  · rw [u2_o (by omega), u2_r, upd_o (by omega), inNew_o (by omega), mNew_o (by omega) (by omega)]; exact c6
  · rw [u2_o (by omega), u2_r, upd_o (by omega), inNew_o (by omega), mNew_o (by omega) (by omega)]; exact c7
  · rw [u2_o (by omega), u2_r, upd_o (by omega), inNew_o (by omega), mNew_o (by omega) (by omega)]; exact c8
  · rw [u2_o (by omega), u2_r, upd_o (by omega), inNew_o (by omega), mNew_o (by omega) (by omega)]; exact c9
  · show u2 _ _ _ _ (h + 37) 7 + 0 = mAll (mNew σ j x y)
    rw [mNew_all hj hc, u2_o (by omega), u2_r, upd_o (by omega), inNew_o (by omega)]; exact hR.2.1
  · rw [u2_r, upd_o (by omega), u2_o (by omega), hin, if_pos rfl]; unfold mNew; simp (disch := omega) only [upd_o, upd_r]
  · rw [u2_r, upd_o (by omega), u2_o (by omega), hin]; unfold mNew; simp (disch := omega) only [upd_o, upd_r]; rfl
  · rw [u2_r, upd_o (by omega), u2_o (by omega), hin]; unfold mNew; simp (disch := omega) only [upd_o, upd_r]; rfl
  · rw [u2_r, upd_o (by omega), u2_o (by omega), hin, mNew_z (by omega) (by omega)]; rfl
  · rw [u2_r, upd_o (by omega), u2_o (by omega), hin, mNew_z (by omega) (by omega)]; rfl
  · rw [u2_r, upd_r, mNew_z (by omega) (by omega)]
  · rw [u2_r, upd_o (by omega), u2_o (by omega), hin, mNew_z (by omega) (by omega), if_pos rfl]; rfl
  · rw [u2_r, upd_o (by omega), u2_o (by omega), hin, mNew_z (by omega) (by omega)]; rfl
  · rw [u2_r, upd_o (by omega), u2_o (by omega), hin]; unfold mNew; simp (disch := omega) only [upd_o, upd_r]; rfl
  · rw [u2_r, upd_o (by omega), u2_o (by omega), hin]; unfold mNew; simp (disch := omega) only [upd_o, upd_r]; exact et
  · rw [u2_r, upd_o (by omega), u2_o (by omega), hin]; unfold mNew; simp (disch := omega) only [upd_o, upd_r]; exact et
  · rw [u2_r, upd_o (by omega), u2_o (by omega), hin, mNew_z (by omega) (by omega)]; rfl
  · rw [u2_r, upd_o (by omega), u2_o (by omega), hin, mNew_z (by omega) (by omega)]; rfl
  · rw [u2_r, upd_o (by omega), u2_o (by omega), hin, mNew_z (by omega) (by omega)]; rfl
theorem IN_new {σ : Nat → Int32} {T B j : Nat} {x y : Int32} (hN : IN σ T B) (hj : j < 8) (hc : ¬ σ (101 + 16 * j) = 1) : IN (mNew σ j x y) T B := by
  obtain ⟨a, w, q1, q2, q3, q4⟩ := hN.2.2.1
  have e0 : mNew σ j x y (101 + 16 * j) = 1 := by unfold mNew; simp (disch := omega) only [upd_o, upd_r]
  have e7 : mNew σ j x y (101 + 16 * j + 7) = σ 2 := by unfold mNew; simp (disch := omega) only [upd_o, upd_r]
  refine IN_i hN (MT_new hN.1.2.1) hj (fun q h1 h2 h3 => mNew_o (by omega) h2) (Or.inr e0) (fun _ => ⟨⟨T, Nat.le_refl T, e7.trans hN.1.2.1.2.1⟩, Or.inl (mNew_z (by omega) (by omega)), fun hp => ?_⟩) ⟨a, w, (mNew_o (by omega) (by omega)).trans q1, q2, (mNew_o (by omega) (by omega)).trans q3, q4⟩ (mNew_o (by omega) (by omega)) (mNew_all hj hc)
  rw [mNew_z (by omega) (by omega)] at hp
  exact absurd hp (by decide)
theorem rep_alert {v : mV} {h : Nat} {σ : Nat → Int32} {T B : Nat} (hR : Rep v h σ 0) (hN : IN σ T B) (x y : Int32) : OK (hsAlert v h x y) (mAlerts σ x y) h B := by
  have hI := hN.1.2.1.1
  unfold hsAlert mAlerts
  by_cases h0 : x < 0
  · rw [if_pos h0, if_pos (by unfold mIn; rw [if_pos h0])]; exact OK_id hR hN
  · rw [if_neg h0]
    obtain ⟨cx, hcx, rfl⟩ := nI_of h0
    by_cases h20 : cx < 20
    · rw [if_pos ((na_lt rfl kn_20 hcx (by omega)).mpr h20), if_neg (show ¬ mIn (nI cx) 0 19 = 0 by unfold mIn; rw [if_neg h0, if_neg (by rw [na_lt kn_19 rfl (by omega) hcx]; omega)]; decide)]
      by_cases hy0 : y < 0
      · rw [if_pos hy0, if_pos (by unfold mIn; rw [if_pos hy0])]; exact OK_id hR hN
      · rw [if_neg hy0]
        by_cases hy2 : 2 < y
        · rw [if_pos hy2, if_pos (by unfold mIn; rw [if_neg hy0, if_pos hy2])]; exact OK_id hR hN
        · rw [if_neg hy2, if_neg (show ¬ mIn y 0 2 = 0 by unfold mIn; rw [if_neg hy0, if_neg hy2]; decide)]
          rcases rep_folLp hR hN (nI cx) y 8 0 rfl with ⟨e1, e2⟩ | ⟨j, hj, ho, e1, e2⟩
          · rw [e2, e1, if_pos (show (-1 : Int32) < 0 by decide)]
            unfold mOpens
            rcases mFree_char σ 8 (-1) (by omega) with ⟨q, q1, q2, q3, q4⟩ | ⟨q1, q2⟩
            · rw [q4, if_neg (nI_nneg (by omega)), nI_clamp (show q < 2 ^ 31 by omega), hsNew_some hR hN.1.2.2.1 q1 q2 q3 _ _ 8 0 rfl (by omega)]
              have hr := rep_new (x := nI cx) (y := y) hR q1 q2
              have hn := IN_new (x := nI cx) (y := y) hN q1 q2
              have e0 : mNew σ q (nI cx) y (101 + 16 * q) = 1 := by unfold mNew; simp (disch := omega) only [upd_o, upd_r]
              refine OK_mk (T := T) rfl ?_ (IN_page hn q1 e0)
              have hrg : rsRegionAt (u2 (inNew v (h + (38 + q)) (nI cx) y (v h 3)) (h + 37) 0 (v (h + 37) 0 + 1)) h (v h 3) = mRegion (mNew σ q (nI cx) y) (mNew σ q (nI cx) y 2) := by
                rw [← rep_region hr hn.1.2.1.1, show mNew σ q (nI cx) y 2 = v h 3 from (mNew_o (by omega) (by omega)).trans hR.1.2.1.1.symm]
                unfold rsRegionAt
                have hL : ∀ r i hh, i + r = 3 → rsRegionLp (u2 (inNew v (h + (38 + q)) (nI cx) y (v h 3)) (h + 37) 0 (v (h + 37) 0 + 1)) h hh r i = rsRegionLp (u2 (u2 (inNew v (h + (38 + q)) (nI cx) y (v h 3)) (h + 37) 0 (v (h + 37) 0 + 1)) (h + (38 + q)) 5 0) h hh r i := by
                  intro r
                  induction r with
                  | zero => intro i hh _; rfl
                  | succ r ih =>
                    intro i hh hi
                    rw [rsRegionLp, rsRegionLp, ih (i + 1) hh (by omega)]
                    simp (disch := omega) only [u2_o]
                exact hL 3 0 _ rfl
              rw [← hsPage_5 (z := 0)]
              exact rep_page hr hn.1.2.1.1 q1 e0 hrg
            · rw [q2, if_pos (show (-1 : Int32) < 0 by decide), hsNew_none hR q1 _ _ 8 0 rfl]
              exact OK_id hR hN
          · rw [e2, e1, if_neg (nI_nneg (by omega)), nI_clamp (show j < 2 ^ 31 by omega)]
            obtain ⟨x0, x1⟩ := hR.2.2.2.2.2 j hj
            obtain ⟨⟨f1, f2, f3, f4, f5, f6, f7⟩, -⟩ := x1 ho
            obtain ⟨w, hw, ew⟩ := hI.2.2.2.2.2.2.2 j hj
            have hf := rep_fold (y := y) hR hj ho
            have hn := IN_fold (y := y) hN hj ho
            have e0 : mFold σ j y (101 + 16 * j) = 1 := by unfold mFold; simp (disch := omega) only [upd_o]; exact ho
            have hrg : rsRegionAt (hsFold v h j y).2 h (v h 3) = mRegion (mFold σ j y) (mFold σ j y 2) := by
              rw [rep_region hf hn.1.2.1.1, show mFold σ j y 2 = σ 2 by unfold mFold; simp (disch := omega) only [upd_o], hR.1.2.1.1]
            have hpg := rep_page hf hn.1.2.1.1 hj e0 hrg
            have hfst : (hsFold v h j y).1 = if σ (101 + 16 * j + 2) < y then (if σ (101 + 16 * j + 4) = 0 then 1 else 0) else 0 := by
              unfold hsFold
              rw [f2, f4]
              by_cases hc : σ (101 + 16 * j + 2) < y
              · rw [if_pos hc, if_pos hc]
                by_cases hw0 : w = 0
                · subst hw0
                  rw [if_pos (by rw [ew]; decide), if_pos (by rw [ew]; decide)]
                · rw [if_neg (show ¬ σ (101 + 16 * j + 4) = 0 by rw [ew]; exact fun z => hw0 ((na_eq rfl kn_0 (by omega) (by omega)).mp z)), if_neg]
                  rw [ew, show w = w - 1 + 1 by omega, nI_pred]
                  exact fun z => nI_nneg (j := w - 1) (by omega) (by rw [z]; decide)
              · rw [if_neg hc, if_neg hc]
            rw [hfst]
            by_cases hc : σ (101 + 16 * j + 2) < y
            · rw [if_pos hc, if_pos hc]
              by_cases h4 : σ (101 + 16 * j + 4) = 0
              · rw [if_pos h4, if_pos h4, if_neg (show ¬ (1 : Int32) = 0 by decide)]
                exact OK_mk rfl hpg (IN_page hn hj e0)
              · rw [if_neg h4, if_neg h4, if_pos rfl]
                exact OK_mk rfl hf hn
            · rw [if_neg hc, if_neg hc, if_pos rfl]
              exact OK_mk rfl hf hn
    · rw [if_neg (fun q => h20 ((na_lt rfl kn_20 hcx (by omega)).mp q)), if_pos (by unfold mIn; rw [if_neg h0, if_pos ((na_lt kn_19 rfl (by omega) hcx).mpr (by omega))])]
      exact OK_id hR hN
