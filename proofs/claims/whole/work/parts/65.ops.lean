/-! ===== class and reference: people, regions, settings ===== -/
def OK (a : Int32 × mV) (b : Int32 × (Nat → Int32)) (h B : Nat) : Prop := a.1 = b.1 ∧ Rep a.2 h b.2 0 ∧ ∃ T, IN b.2 T B
theorem IN_c {σ τ : Nat → Int32} {T B B' : Nat} (hN : IN σ T B) (hM : MT τ T T) (hB : B ≤ B') (hk : τ 12 = σ 12 ∧ τ 11 = σ 11 ∧ τ 9 = σ 9 ∧ τ 10 = σ 10 ∧ τ 2 = σ 2) (he : ∀ k, k < 8 → τ (16 + 5 * k + 2) = σ (16 + 5 * k + 2)) (hr : ∀ k d, k < 3 → 3 ≤ d → d < 9 → τ (56 + 9 * k + d) = σ (56 + 9 * k + d)) (hi : ∀ k d, k < 8 → d < 16 → τ (101 + 16 * k + d) = σ (101 + 16 * k + d)) : IN τ T B' := by
  obtain ⟨⟨hT3, -, hBB, hQ⟩, hE, ⟨a, w, k1, k2, k3, k4⟩, ⟨u, u1, u2⟩, ⟨o, o1, o2⟩, hD⟩ := hN
  have h0 : ∀ k, k < 8 → τ (101 + 16 * k) = σ (101 + 16 * k) := fun k hk => hi k 0 hk (by omega)
  refine ⟨⟨hT3, hM, fun k hk => by rw [h0 k hk]; exact hBB k hk, fun k hk ho => IX_c (hQ k hk (by rw [← h0 k hk]; exact ho)) (fun d hd => hi k d hk hd)⟩, fun k hk => ?_, ⟨a, w, hk.1.trans k1, by omega, hk.2.1.trans k3, k4⟩, ⟨u, u1, hk.2.2.1.trans u2⟩, ⟨o, o1, ?_⟩, fun k hk m hm em x y hx hy hxy => ?_⟩
  · obtain ⟨e, h1, h2⟩ := hE k hk
    exact ⟨e, h1, (he k hk).trans h2⟩
  · rw [mAll_c hk.2.2.2.1 hk.2.2.2.2 (fun i hi' => ⟨h0 i hi', fun _ => hi i 7 hi' (by omega)⟩)]; exact o2
  · rw [hr k _ hk (by omega) (by omega), hr k _ hk (by omega) (by omega)] at hxy
    rw [hr k 3 hk (by omega) (by omega)] at em
    exact hD k hk m hm em x y hx hy hxy
theorem OK_mk {x y : Int32} {w : mV} {τ : Nat → Int32} {h T B : Nat} (h1 : x = y) (hR : Rep w h τ 0) (hN : IN τ T B) : OK (x, w) (y, τ) h B := ⟨h1, hR, T, hN⟩
theorem OK_id {v : mV} {h B T : Nat} {σ : Nat → Int32} {x : Int32} (hR : Rep v h σ 0) (hN : IN σ T B) : OK (x, v) (x, σ) h B := ⟨rfl, hR, T, hN⟩
/-- a change in the scalars -/
theorem Rep_s {v w : mV} {h : Nat} {σ τ : Nat → Int32} {d : Int32} (hR : Rep v h σ d) (hS : RS w h τ) (hw : ∀ c, c ≠ 0 → c ≠ 1 → c ≠ 37 → w (h + c) = v (h + c)) (h7 : w (h + 37) 7 = v (h + 37) 7) (h10 : τ 10 = σ 10) (h2 : τ 2 = σ 2) (hs : ∀ q, 16 ≤ q → τ q = σ q) : Rep w h τ d := by
  obtain ⟨-, hA, hP, hRR, hT, hI⟩ := hR
  refine ⟨hS, ?_, fun i hi => RP_c (hP i hi) (hw _ (by omega) (by omega) (by omega)) (by rw [Nat.add_assoc]; exact hw _ (by omega) (by omega) (by omega)) (fun d hd => hs _ (by omega)), fun k hk => RR_c (hRR k hk) (hw _ (by omega) (by omega) (by omega)) (by rw [Nat.add_assoc]; exact hw _ (by omega) (by omega) (by omega)) (by rw [Nat.add_assoc]; exact hw _ (by omega) (by omega) (by omega)) (fun d hd => hs _ (by omega)), fun k hk => RT_c (hT k hk) (hw _ (by omega) (by omega) (by omega)) (fun d hd => hs _ (by omega)), fun i hi => RI_c (hI i hi) (hw _ (by omega) (by omega) (by omega)) (fun d hd => hs _ (by omega))⟩
  show w (h + 37) 7 + d = mAll τ
  rw [h7, mAll_c h10 h2 (fun i hi => ⟨hs _ (by omega), fun _ => hs _ (by omega)⟩)]
  exact hA
theorem MI_0 {s : Nat → Int32} {P : Nat} (hI : MI s) (hP : P ≤ 8) : MI (upd s 0 (nI P)) := by
  obtain ⟨-, ⟨R, r1, r2, r3⟩, ⟨T, t1, t2, t3⟩, ⟨O, o1, o2⟩, a, b, c, d⟩ := hI
  refine ⟨⟨P, hP, upd_r⟩, ⟨R, r1, by rw [upd_o (by omega)]; exact r2, fun k hk => ?_⟩, ⟨T, t1, by rw [upd_o (by omega)]; exact t2, fun i hi => ?_⟩, ⟨O, o1, by rw [upd_o (by omega)]; exact o2⟩, fun k hk => ?_, fun k j2 hk hj => ?_, fun k hk => ?_, fun i hi => ?_⟩
  · rw [upd_o (by omega)]; exact r3 k hk
  · rw [upd_o (by omega)]; exact t3 i hi
  · rw [upd_o (by omega)]; exact a k hk
  · rw [upd_o (by omega)]; exact b k j2 hk hj
  · rw [upd_o (by omega)]; exact c k hk
  · rw [upd_o (by omega)]; exact d i hi
theorem rep_addPerson {v : mV} {h : Nat} {σ : Nat → Int32} {T B : Nat} (hR : Rep v h σ 0) (hN : IN σ T B) : OK (rsAddPerson v h) (mComes σ) h B := by
  obtain ⟨P, p1, p2⟩ := hN.1.2.1.1.1
  have e3 : v (h + 1) 3 = nI P := hR.1.1.1.trans p2
  unfold rsAddPerson mComes
  rw [e3, p2, if_neg (nI_nneg (by omega))]
  by_cases h8 : P = 8
  · subst h8
    rw [if_neg (by decide +kernel), if_pos (by decide +kernel)]
    exact OK_id hR hN
  · rw [if_pos ((na_lt rfl kn_8 (by omega) (by omega)).mpr (by omega)), if_neg (fun z => h8 ((na_eq rfl kn_8 (by omega) (by omega)).mp z)), nI_1, nI_pred]
    refine OK_mk (T := T) rfl ?_ ?_
    · obtain ⟨⟨a1, a2, a3⟩, ⟨b1, b2, b3⟩, c1, c2, c3, c4, c5, c6, c7, c8, c9⟩ := hR.1
      refine Rep_s hR ⟨⟨?_, ?_, ?_⟩, ⟨?_, ?_, ?_⟩, ?_, ?_, ?_, ?_, ?_, ?_, ?_, ?_, ?_⟩ (fun c h0 h1 h2 => u2_o (by omega)) ?_ ?_ ?_ (fun q hq => upd_o (by omega))
      all_goals simp (disch := omega) only [u2_o, u2_r, upd_o, upd_r]
      all_goals assumption
    · refine IN_c hN ⟨MI_0 hN.1.2.1.1 (by omega), by rw [upd_o (by omega)]; exact hN.1.2.1.2.1, fun i hi => by rw [upd_o (by omega)]; exact hN.1.2.1.2.2 i hi⟩ (Nat.le_refl B) ⟨?_, ?_, ?_, ?_, ?_⟩ (fun k hk => ?_) (fun k d hk h1 h2 => ?_) (fun k d hk hd => ?_)
      all_goals exact upd_o (by omega)
theorem rep_set {v : mV} {h : Nat} {σ : Nat → Int32} {T B : Nat} (hR : Rep v h σ 0) (hN : IN σ T B) (x y : Int32) : OK (hsSet v h x y) (mSets σ x y) h B := by
  obtain ⟨⟨⟨a1, a2, a3⟩, ⟨b1, b2, b3⟩, c1, c2, c3, c4, c5, c6, c7, c8, c9⟩, hrest⟩ := hR
  have hR : Rep v h σ 0 := ⟨⟨⟨a1, a2, a3⟩, ⟨b1, b2, b3⟩, c1, c2, c3, c4, c5, c6, c7, c8, c9⟩, hrest⟩
  have key : ∀ (j : Nat), (j = 13 ∨ j = 14) → ∀ y, IN (upd σ j y) T B := fun j hj y => by
    refine IN_c hN (MT_free hN.1.2.1 (by omega) (by omega)) (Nat.le_refl B) ⟨?_, ?_, ?_, ?_, ?_⟩ (fun k hk => ?_) (fun k d hk h1 h2 => ?_) (fun k d hk hd => ?_)
    all_goals exact upd_o (by omega)
  have k0 : Rep (u2 v h 4 y) h (upd σ 13 y) 0 := by
    refine Rep_s hR ⟨⟨?_, ?_, ?_⟩, ⟨?_, ?_, ?_⟩, ?_, ?_, ?_, ?_, ?_, ?_, ?_, ?_, ?_⟩ (fun c h0 h1 h2 => u2_o (by omega)) ?_ ?_ ?_ (fun q hq => upd_o (by omega))
    all_goals simp (disch := omega) only [u2_o, u2_r, upd_o, upd_r]
    all_goals assumption
  have k1 : Rep (u2 v h 5 y) h (upd σ 14 y) 0 := by
    refine Rep_s hR ⟨⟨?_, ?_, ?_⟩, ⟨?_, ?_, ?_⟩, ?_, ?_, ?_, ?_, ?_, ?_, ?_, ?_, ?_⟩ (fun c h0 h1 h2 => u2_o (by omega)) ?_ ?_ ?_ (fun q hq => upd_o (by omega))
    all_goals simp (disch := omega) only [u2_o, u2_r, upd_o, upd_r]
    all_goals assumption
  have z0 : (0 : Int32).toNatClampNeg = 0 := by decide
  have z1 : (1 : Int32).toNatClampNeg = 1 := by decide
  unfold hsSet mSets
  by_cases hx0 : x = 0
  · subst hx0
    rw [if_pos rfl, if_neg (show ¬ mIn 0 0 1 = 0 by decide), if_pos rfl, z0]
    unfold mIn
    by_cases h1 : y < 1
    · rw [if_pos h1, if_pos h1, if_pos rfl]; exact OK_id hR hN
    · rw [if_neg h1, if_neg h1]
      by_cases h2 : 120 < y
      · rw [if_pos h2, if_pos h2, if_pos rfl]; exact OK_id hR hN
      · rw [if_neg h2, if_neg h2, if_neg (show ¬ (1 : Int32) = 0 by decide)]
        exact OK_mk b2 k0 (key 13 (Or.inl rfl) y)
  · rw [if_neg hx0]
    by_cases hx1 : x = 1
    · subst hx1
      rw [if_pos rfl, if_neg (show ¬ mIn 1 0 1 = 0 by decide), if_neg (show ¬ (1 : Int32) = 0 by decide), z1]
      unfold mIn
      by_cases h1 : y < 0
      · rw [if_pos h1, if_pos h1, if_pos rfl]; exact OK_id hR hN
      · rw [if_neg h1, if_neg h1]
        by_cases h2 : 600 < y
        · rw [if_pos h2, if_pos h2, if_pos rfl]; exact OK_id hR hN
        · rw [if_neg h2, if_neg h2, if_neg (show ¬ (1 : Int32) = 0 by decide)]
          exact OK_mk b3 k1 (key 14 (Or.inr rfl) y)
    · rw [if_neg hx1]
      by_cases hin : mIn x 0 1 = 0
      · rw [if_pos hin]; exact OK_id hR hN
      · obtain ⟨j, hj, rfl⟩ := mIn_1 hin
        exfalso
        have : j = 0 ∨ j = 1 := by omega
        rcases this with rfl | rfl
        · exact hx0 kn_0.symm
        · exact hx1 kn_1.symm
theorem fIsHour_in (x : Int32) : fIsHour x = mIn x 0 23 := by
  unfold fIsHour mIn
  by_cases h0 : x < 0
  · rw [if_pos h0, if_pos h0]
  · rw [if_neg h0, if_neg h0]
    obtain ⟨j, hj, rfl⟩ := nI_of h0
    by_cases h : j < 24
    · rw [if_pos ((na_lt rfl kn_24 hj (by omega)).mpr h), if_neg (by rw [na_lt kn_23 rfl (by omega) hj]; omega)]
    · rw [if_neg (fun z => h ((na_lt rfl kn_24 hj (by omega)).mp z)), if_pos ((na_lt kn_23 rfl (by omega) hj).mpr (by omega))]
/-- a change in one region -/
theorem Rep_r {v w : mV} {h k : Nat} {σ τ : Nat → Int32} {d : Int32} (hR : Rep v h σ d) (hk : k < 3) (hc : w (h + 1) 3 = τ 0 ∧ w (h + 1) 4 = τ 1 ∧ w (h + 1) 5 = τ 15) (hw : ∀ c, c ≠ 1 → (c < 21 + 3 * k ∨ 21 + 3 * k + 3 ≤ c) → w (h + c) = v (h + c)) (hs : ∀ q, q ≠ 1 → (q < 56 + 9 * k ∨ 56 + 9 * k + 9 ≤ q) → τ q = σ q) (hRk : RR w h τ k) : Rep w h τ d := by
  obtain ⟨⟨-, ⟨b1, b2, b3⟩, c1, c2, c3, c4, c5, c6, c7, c8, c9⟩, hA, hP, hRR, hT, hI⟩ := hR
  have h0 : w h = v h := hw 0 (by omega) (by omega)
  have h37 := hw 37 (by omega) (by omega)
  refine ⟨⟨hc, ⟨?_, ?_, ?_⟩, ?_, ?_, ?_, ?_, ?_, ?_, ?_, ?_, ?_⟩, ?_, fun i hi => RP_c (hP i hi) (hw _ (by omega) (by omega)) (by rw [Nat.add_assoc]; exact hw _ (by omega) (by omega)) (fun d hd => hs _ (by omega) (by omega)), fun k' hk' => ?_, fun k hk => RT_c (hT k hk) (hw _ (by omega) (by omega)) (fun d hd => hs _ (by omega) (by omega)), fun i hi => RI_c (hI i hi) (hw _ (by omega) (by omega)) (fun d hd => hs _ (by omega) (by omega))⟩
  · rw [h0, hs 2 (by omega) (by omega)]; exact b1
  · rw [h0, hs 13 (by omega) (by omega)]; exact b2
  · rw [h0, hs 14 (by omega) (by omega)]; exact b3
  · rw [h37, hs 3 (by omega) (by omega)]; exact c1
  · rw [h37, hs 4 (by omega) (by omega)]; exact c2
  · rw [h37, hs 5 (by omega) (by omega)]; exact c3
  · rw [h37, hs 6 (by omega) (by omega)]; exact c4
  · rw [h37, hs 7 (by omega) (by omega)]; exact c5
  · rw [h37, hs 8 (by omega) (by omega)]; exact c6
  · rw [h37, hs 9 (by omega) (by omega)]; exact c7
  · rw [h37, hs 12 (by omega) (by omega)]; exact c8
  · rw [h37, hs 11 (by omega) (by omega)]; exact c9
  · show w (h + 37) 7 + d = mAll τ
    rw [h37, mAll_c (hs 10 (by omega) (by omega)) (hs 2 (by omega) (by omega)) (fun i hi => ⟨hs _ (by omega) (by omega), fun _ => hs _ (by omega) (by omega)⟩)]
    exact hA
  · by_cases hkk : k' = k
    · subst hkk; exact hRk
    · exact RR_c (hRR k' hk') (hw _ (by omega) (by omega)) (by rw [Nat.add_assoc]; exact hw _ (by omega) (by omega)) (by rw [Nat.add_assoc]; exact hw _ (by omega) (by omega)) (fun d hd => hs _ (by omega) (by omega))
theorem MI_reg {s : Nat → Int32} {R z : Nat} {x y : Int32} (hI : MI s) (hR : R < 3) (e : s 1 = nI R) (z1 : 1 ≤ z) (z2 : z ≤ 24) : MI (upd (upd (upd (upd s (56 + 9 * R) x) (56 + 9 * R + 1) y) (56 + 9 * R + 2) (nI z)) 1 (nI (R + 1))) := by
  obtain ⟨⟨P, p1, p2⟩, ⟨R', r1, r2, r3⟩, ⟨T, t1, t2, t3⟩, ⟨O, o1, o2⟩, a, b, c, d⟩ := hI
  have : R' = R := (na_eq r2 e (by omega) (by omega)).mp rfl
  subst this
  refine ⟨⟨P, p1, ?_⟩, ⟨R' + 1, by omega, upd_r, fun k hk => ?_⟩, ⟨T, t1, ?_, fun i hi => ?_⟩, ⟨O, o1, ?_⟩, fun k hk => ?_, fun k j2 hk hj => ?_, fun k hk => ?_, fun i hi => ?_⟩
  · simp (disch := omega) only [upd_o]; exact p2
  · by_cases hkR : k = R'
    · subst hkR
      exact ⟨z, z1, z2, by rw [upd_o (by omega), upd_r]⟩
    · simp (disch := omega) only [upd_o]; exact r3 k (by omega)
  · simp (disch := omega) only [upd_o]; exact t2
  · simp (disch := omega) only [upd_o]; exact t3 i hi
  · simp (disch := omega) only [upd_o]; exact o2
  · simp (disch := omega) only [upd_o]; exact a k hk
  · simp (disch := omega) only [upd_o]; exact b k j2 hk hj
  · simp (disch := omega) only [upd_o]; exact c k hk
  · simp (disch := omega) only [upd_o]; exact d i hi
theorem rep_addRegion {v : mV} {h : Nat} {σ : Nat → Int32} {T B : Nat} (hR : Rep v h σ 0) (hN : IN σ T B) (x y z : Int32) : OK (rsAddRegion v h x y z) (mLies σ x y z) h B := by
  obtain ⟨R, r1, r2, r3⟩ := hN.1.2.1.1.2.1
  have e4 : v (h + 1) 4 = nI R := hR.1.1.2.1.trans r2
  unfold rsAddRegion mLies
  rw [fIsHour_in, fIsHour_in]
  by_cases h1 : mIn x 0 23 = 0
  · rw [if_pos h1, if_pos h1]; exact OK_id hR hN
  · rw [if_neg h1, if_neg h1]
    by_cases h2 : mIn y 0 23 = 0
    · rw [if_pos h2, if_pos h2]; exact OK_id hR hN
    · rw [if_neg h2, if_neg h2]
      by_cases h3 : x = y
      · rw [if_pos h3, if_pos h3]; exact OK_id hR hN
      · rw [if_neg h3, if_neg h3]
        by_cases h4 : z < 1
        · rw [if_pos h4, if_pos (by unfold mIn; rw [if_pos h4])]; exact OK_id hR hN
        · rw [if_neg h4]
          by_cases h5 : 24 < z
          · rw [if_pos h5, if_pos (by unfold mIn; rw [if_neg h4, if_pos h5])]; exact OK_id hR hN
          · rw [if_neg h5, if_neg (show ¬ mIn z 1 24 = 0 by unfold mIn; rw [if_neg h4, if_neg h5]; decide), e4, r2, if_neg (nI_nneg (by omega))]
            by_cases hR3 : R = 3
            · subst hR3
              rw [if_neg (by decide +kernel), if_pos (by decide +kernel)]; exact OK_id hR hN
            · rw [if_pos ((na_lt rfl kn_3 (by omega) (by omega)).mpr (by omega)), if_neg (fun q => hR3 ((na_eq rfl kn_3 (by omega) (by omega)).mp q)), nI_clamp (show R < 2 ^ 31 by omega), nI_1, nI_pred]
              obtain ⟨zz, hz, rfl⟩ := nI_of2 (x := z) (n := 24) (M := 24) (by decide +kernel) (fun q => h4 (Int32.lt_trans q (by decide))) (Int32.not_lt.mp h5)
              have z1 : 1 ≤ zz := by
                rw [na_lt rfl kn_1 (by omega) (by omega)] at h4; omega
              refine OK_mk (T := T) rfl ?_ ?_
              · obtain ⟨d1, d2, d3, d4, d5⟩ := hR.2.2.2.1 R (by omega)
                obtain ⟨a1, a2, a3⟩ := hR.1.1
                refine Rep_r hR (k := R) (by omega) ⟨?_, ?_, ?_⟩ (fun c h0 h1 => ?_) (fun q h0 h1 => ?_) ⟨?_, ?_, ?_, ?_, fun j hj => ?_⟩
                all_goals (try unfold rgPut)
                all_goals simp (disch := omega) only [u2_o, u2_r, upd_o, upd_r]
                all_goals first | assumption | exact d5 j hj
              · refine IN_c hN ⟨MI_reg hN.1.2.1.1 (by omega) r2 z1 hz, ?_, fun i hi => ?_⟩ (Nat.le_refl B) ⟨?_, ?_, ?_, ?_, ?_⟩ (fun k hk => ?_) (fun k d hk h1 h2 => ?_) (fun k d hk hd => ?_)
                · simp (disch := omega) only [upd_o]; exact hN.1.2.1.2.1
                · simp (disch := omega) only [upd_o]; exact hN.1.2.1.2.2 i hi
                all_goals simp (disch := omega) only [upd_o]
/-- a change in one person -/
theorem Rep_p {v w : mV} {h i : Nat} {σ τ : Nat → Int32} {d : Int32} (hR : Rep v h σ d) (hi : i < 8) (hw : ∀ c, (c < 5 + 2 * i ∨ 5 + 2 * i + 2 ≤ c) → w (h + c) = v (h + c)) (hs : ∀ q, (q < 16 + 5 * i ∨ 16 + 5 * i + 5 ≤ q) → τ q = σ q) (hP : RP w h τ i) : Rep w h τ d := by
  have h0 : w h = v h := hw 0 (by omega)
  obtain ⟨⟨⟨a1, a2, a3⟩, ⟨b1, b2, b3⟩, c1, c2, c3, c4, c5, c6, c7, c8, c9⟩, hA, hPP, hRR, hT, hI⟩ := hR
  refine Rep_ch ⟨⟨⟨a1, a2, a3⟩, ⟨b1, b2, b3⟩, c1, c2, c3, c4, c5, c6, c7, c8, c9⟩, hA, hPP, hRR, hT, hI⟩ ⟨⟨?_, ?_, ?_⟩, ⟨?_, ?_, ?_⟩, ?_, ?_, ?_, ?_, ?_, ?_, ?_, ?_, ?_⟩ ?_ (fun j hj => ?_) (fun c h1 h2 => hw c (by omega)) (fun q h1 h2 => hs q (by omega)) (fun j hj => RI_c (hI j hj) (hw _ (by omega)) (fun d hd => hs _ (by omega)))
  · rw [hw 1 (by omega), hs 0 (by omega)]; exact a1
  · rw [hw 1 (by omega), hs 1 (by omega)]; exact a2
  · rw [hw 1 (by omega), hs 15 (by omega)]; exact a3
  · rw [h0, hs 2 (by omega)]; exact b1
  · rw [h0, hs 13 (by omega)]; exact b2
  · rw [h0, hs 14 (by omega)]; exact b3
  · rw [hw 37 (by omega), hs 3 (by omega)]; exact c1
  · rw [hw 37 (by omega), hs 4 (by omega)]; exact c2
  · rw [hw 37 (by omega), hs 5 (by omega)]; exact c3
  · rw [hw 37 (by omega), hs 6 (by omega)]; exact c4
  · rw [hw 37 (by omega), hs 7 (by omega)]; exact c5
  · rw [hw 37 (by omega), hs 8 (by omega)]; exact c6
  · rw [hw 37 (by omega), hs 9 (by omega)]; exact c7
  · rw [hw 37 (by omega), hs 12 (by omega)]; exact c8
  · rw [hw 37 (by omega), hs 11 (by omega)]; exact c9
  · show w (h + 37) 7 + d = mAll τ
    rw [hw 37 (by omega), mAll_c (hs 10 (by omega)) (hs 2 (by omega)) (fun i hi => ⟨hs _ (by omega), fun _ => hs _ (by omega)⟩)]
    exact hA
  · by_cases hji : j = i
    · subst hji; exact hP
    · exact RP_c (hPP j hj) (hw _ (by omega)) (by rw [Nat.add_assoc]; exact hw _ (by omega)) (fun d hd => hs _ (by omega))
theorem rep_quiet {v : mV} {h : Nat} {σ : Nat → Int32} {T B : Nat} (hR : Rep v h σ 0) (hN : IN σ T B) (x y z : Int32) : OK (rsQuiet v h x y z) (mRests σ x y z) h B := by
  unfold rsQuiet mRests
  rw [rep_hasP hR hN.1.2.1.1, fIsHour_in, fIsHour_in]
  by_cases h1 : mIn x 0 (σ 0 - 1) = 0
  · rw [if_pos h1, if_pos h1]; exact OK_id hR hN
  · rw [if_neg h1, if_neg h1]
    by_cases h2 : mIn y 0 23 = 0
    · rw [if_pos h2, if_pos h2]; exact OK_id hR hN
    · rw [if_neg h2, if_neg h2]
      by_cases h3 : mIn z 0 23 = 0
      · rw [if_pos h3, if_pos h3]; exact OK_id hR hN
      · rw [if_neg h3, if_neg h3]
        obtain ⟨j, hj, rfl⟩ := mIn_P hN.1.2.1.1 h1
        rw [nI_clamp (show j < 2 ^ 31 by omega)]
        obtain ⟨d1, d2, d3, d4, d5⟩ := hR.2.2.1 j hj
        refine OK_mk (T := T) ?_ ?_ ?_
        · obtain ⟨a, ha, rfl⟩ := mIn_of (x := y) (c := 23) (k := 24) (by decide +kernel) (by decide) h2
          obtain ⟨b, hb, rfl⟩ := mIn_of (x := z) (c := 23) (k := 24) (by decide +kernel) (by decide) h3
          have hab : ∀ a : Nat, a < 24 → ∀ b : Nat, b < 24 → (if nI b < nI a then nI b - nI a + 24 else nI b - nI a) = (if nI b - nI a < 0 then nI b - nI a + 24 else nI b - nI a) := by decide +kernel
          exact hab a ha b hb
        · refine Rep_p hR hj (fun c hc => ?_) (fun q hq => ?_) ⟨?_, ?_, ?_, ?_, ?_⟩
          all_goals simp (disch := omega) only [u2_o, u2_r, upd_o, upd_r]
          all_goals assumption
        · refine IN_c hN (MT_free (MT_free hN.1.2.1 (by omega) (by omega)) (by omega) (by omega)) (Nat.le_refl B) ⟨?_, ?_, ?_, ?_, ?_⟩ (fun k hk => ?_) (fun k d hk h1 h2 => ?_) (fun k d hk hd => ?_)
          all_goals simp (disch := omega) only [upd_o]
theorem rep_except {v : mV} {h : Nat} {σ : Nat → Int32} {T B : Nat} (hR : Rep v h σ 0) (hN : IN σ T B) (x y : Int32) : OK (rsExcept v h x y) (mExcs σ x y) h B := by
  unfold rsExcept mExcs
  rw [rep_hasP hR hN.1.2.1.1]
  by_cases h1 : mIn x 0 (σ 0 - 1) = 0
  · rw [if_pos h1, if_pos h1]; exact OK_id hR hN
  · rw [if_neg h1, if_neg h1]
    by_cases h0 : y < 0
    · rw [if_pos h0, if_pos (by unfold mIn; rw [if_pos h0])]; exact OK_id hR hN
    · rw [if_neg h0]
      obtain ⟨c, hc, rfl⟩ := nI_of h0
      by_cases h20 : c < 20
      · rw [if_pos ((na_lt rfl kn_20 hc (by omega)).mpr h20), if_neg (show ¬ mIn (nI c) 0 19 = 0 by unfold mIn; rw [if_neg h0, if_neg (by rw [na_lt kn_19 rfl (by omega) hc]; omega)]; decide)]
        obtain ⟨j, hj, rfl⟩ := mIn_P hN.1.2.1.1 h1
        rw [nI_clamp (show j < 2 ^ 31 by omega)]
        obtain ⟨d1, d2, d3, d4, d5⟩ := hR.2.2.1 j hj
        obtain ⟨e, he, ee⟩ := hN.2.1 j hj
        have hex := exc_bit (x := σ (16 + 5 * j + 2)) (c := c) he h20 ee
        refine OK_mk (T := T) (by rw [d3]) ?_ ?_
        · rw [d3]
          refine Rep_p hR hj (fun c hc => ?_) (fun q hq => ?_) ⟨?_, ?_, ?_, ?_, ?_⟩
          all_goals simp (disch := omega) only [u2_o, u2_r, upd_o, upd_r]
          all_goals assumption
        · obtain ⟨⟨hT3, hM, hBB, hQ⟩, hE, hK, hU, hA, hD⟩ := hN
          refine ⟨⟨hT3, MT_free hM (by omega) (by omega), fun k hk => by rw [upd_o (by omega)]; exact hBB k hk, fun k hk ho => IX_c (hQ k hk (by rw [upd_o (by omega)] at ho; exact ho)) (fun d hd => upd_o (by omega))⟩, fun k hk => ?_, ?_, ?_, ?_, ?_⟩
          · by_cases hkj : k = j
            · subst hkj
              exact ⟨_, hex.2, by rw [upd_r]; exact hex.1⟩
            · obtain ⟨e', h1, h2⟩ := hE k hk
              exact ⟨e', h1, by rw [upd_o (by omega)]; exact h2⟩
          · obtain ⟨a, w, q1, q2, q3, q4⟩ := hK
            exact ⟨a, w, by rw [upd_o (by omega)]; exact q1, q2, by rw [upd_o (by omega)]; exact q3, q4⟩
          · obtain ⟨u, q1, q2⟩ := hU
            exact ⟨u, q1, by rw [upd_o (by omega)]; exact q2⟩
          · obtain ⟨u, q1, q2⟩ := hA
            exact ⟨u, q1, by rw [mAll_c (upd_o (by omega)) (upd_o (by omega)) (fun i hi => ⟨upd_o (by omega), fun _ => upd_o (by omega)⟩)]; exact q2⟩
          · intro k hk m hm em a b ha hb hab
            rw [upd_o (by omega), upd_o (by omega)] at hab
            rw [upd_o (by omega)] at em
            exact hD k hk m hm em a b ha hb hab
      · rw [if_neg (fun q => h20 ((na_lt rfl kn_20 hc (by omega)).mp q)), if_pos (by unfold mIn; rw [if_neg h0, if_pos ((na_lt kn_19 rfl (by omega) hc).mpr (by omega))])]
        exact OK_id hR hN
