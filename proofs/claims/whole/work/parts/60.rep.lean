/-! ===== class and reference: what the rows of a house say of a state ===== -/
def RS (v : mV) (h : Nat) (σ : Nat → Int32) : Prop := (v (h + 1) 3 = σ 0 ∧ v (h + 1) 4 = σ 1 ∧ v (h + 1) 5 = σ 15) ∧ (v h 3 = σ 2 ∧ v h 4 = σ 13 ∧ v h 5 = σ 14) ∧ (v (h + 37) 0 = σ 3 ∧ v (h + 37) 1 = σ 4 ∧ v (h + 37) 2 = σ 5 ∧ v (h + 37) 3 = σ 6 ∧ v (h + 37) 4 = σ 7 ∧ v (h + 37) 5 = σ 8 ∧ v (h + 37) 6 = σ 9 ∧ v (h + 37) 8 = σ 12 ∧ v (h + 37) 9 = σ 11)
def RA (v : mV) (h : Nat) (σ : Nat → Int32) (d : Int32) : Prop := v (h + 37) 7 + d = mAll σ
def RP (v : mV) (h : Nat) (σ : Nat → Int32) (i : Nat) : Prop := v (h + (5 + 2 * i) + 1) 0 = σ (16 + 5 * i) ∧ v (h + (5 + 2 * i) + 1) 1 = σ (16 + 5 * i + 1) ∧ v (h + (5 + 2 * i)) 1 = σ (16 + 5 * i + 2) ∧ v (h + (5 + 2 * i)) 2 = σ (16 + 5 * i + 3) ∧ v (h + (5 + 2 * i)) 3 = σ (16 + 5 * i + 4)
def RR (v : mV) (h : Nat) (σ : Nat → Int32) (k : Nat) : Prop := v (h + (21 + 3 * k) + 1) 0 = σ (56 + 9 * k) ∧ v (h + (21 + 3 * k) + 1) 1 = σ (56 + 9 * k + 1) ∧ v (h + (21 + 3 * k)) 2 = σ (56 + 9 * k + 2) ∧ v (h + (21 + 3 * k)) 3 = σ (56 + 9 * k + 3) ∧ ∀ j, j < 5 → v (h + (21 + 3 * k) + 2) j = σ (56 + 9 * k + (4 + j))
def RT (v : mV) (h : Nat) (σ : Nat → Int32) (k : Nat) : Prop := v (h + (30 + k)) 0 = σ (83 + 3 * k) ∧ v (h + (30 + k)) 1 = σ (83 + 3 * k + 1) ∧ v (h + (30 + k)) 2 = σ (83 + 3 * k + 2)
def RIo (v : mV) (c : Nat) (σ : Nat → Int32) (a : Nat) : Prop := (v c 1 = σ (a + 1) ∧ v c 2 = σ (a + 2) ∧ v c 3 = σ (a + 3) ∧ v c 4 = σ (a + 4) - 1 ∧ v c 5 = σ (a + 11) ∧ v c 6 = (if σ (a + 14) = 0 then -1 else σ (a + 10)) ∧ v c 7 = σ (a + 5)) ∧ (v c 8 = σ (a + 6) ∧ v c 9 = σ (a + 7) ∧ v c 10 = σ (a + 8) ∧ v c 11 = σ (a + 9) ∧ v c 12 = σ (a + 12) ∧ v c 13 = σ (a + 13))
def RI (v : mV) (h : Nat) (σ : Nat → Int32) (i : Nat) : Prop := v (h + (38 + i)) 0 = σ (101 + 16 * i) ∧ (σ (101 + 16 * i) = 1 → RIo v (h + (38 + i)) σ (101 + 16 * i))
def Rep (v : mV) (h : Nat) (σ : Nat → Int32) (d : Int32) : Prop := RS v h σ ∧ RA v h σ d ∧ (∀ i, i < 8 → RP v h σ i) ∧ (∀ k, k < 3 → RR v h σ k) ∧ (∀ k, k < 6 → RT v h σ k) ∧ (∀ i, i < 8 → RI v h σ i)
theorem RP_c {v w : mV} {h i : Nat} {σ τ : Nat → Int32} (hR : RP v h σ i) (h0 : w (h + (5 + 2 * i)) = v (h + (5 + 2 * i))) (h1 : w (h + (5 + 2 * i) + 1) = v (h + (5 + 2 * i) + 1)) (hs : ∀ d, d < 5 → τ (16 + 5 * i + d) = σ (16 + 5 * i + d)) : RP w h τ i := by
  obtain ⟨a, b, c, d, e⟩ := hR
  exact ⟨by rw [h1, show τ (16 + 5 * i) = σ (16 + 5 * i) from hs 0 (by omega)]; exact a, by rw [h1, hs 1 (by omega)]; exact b, by rw [h0, hs 2 (by omega)]; exact c, by rw [h0, hs 3 (by omega)]; exact d, by rw [h0, hs 4 (by omega)]; exact e⟩
theorem RR_c {v w : mV} {h k : Nat} {σ τ : Nat → Int32} (hR : RR v h σ k) (h0 : w (h + (21 + 3 * k)) = v (h + (21 + 3 * k))) (h1 : w (h + (21 + 3 * k) + 1) = v (h + (21 + 3 * k) + 1)) (h2 : w (h + (21 + 3 * k) + 2) = v (h + (21 + 3 * k) + 2)) (hs : ∀ d, d < 9 → τ (56 + 9 * k + d) = σ (56 + 9 * k + d)) : RR w h τ k := by
  obtain ⟨a, b, c, d, e⟩ := hR
  exact ⟨by rw [h1, show τ (56 + 9 * k) = σ (56 + 9 * k) from hs 0 (by omega)]; exact a, by rw [h1, hs 1 (by omega)]; exact b, by rw [h0, hs 2 (by omega)]; exact c, by rw [h0, hs 3 (by omega)]; exact d, fun j hj => by rw [h2, hs (4 + j) (by omega)]; exact e j hj⟩
theorem RT_c {v w : mV} {h k : Nat} {σ τ : Nat → Int32} (hR : RT v h σ k) (h0 : w (h + (30 + k)) = v (h + (30 + k))) (hs : ∀ d, d < 3 → τ (83 + 3 * k + d) = σ (83 + 3 * k + d)) : RT w h τ k := by
  obtain ⟨a, b, c⟩ := hR
  exact ⟨by rw [h0, show τ (83 + 3 * k) = σ (83 + 3 * k) from hs 0 (by omega)]; exact a, by rw [h0, hs 1 (by omega)]; exact b, by rw [h0, hs 2 (by omega)]; exact c⟩
theorem RI_c {v w : mV} {h i : Nat} {σ τ : Nat → Int32} (hR : RI v h σ i) (h0 : w (h + (38 + i)) = v (h + (38 + i))) (hs : ∀ d, d < 16 → τ (101 + 16 * i + d) = σ (101 + 16 * i + d)) : RI w h τ i := by
  have e0 : τ (101 + 16 * i) = σ (101 + 16 * i) := hs 0 (by omega)
  refine ⟨by rw [h0, e0]; exact hR.1, fun ho => ?_⟩
  rw [e0] at ho
  obtain ⟨⟨a1, a2, a3, a4, a5, a6, a7⟩, b1, b2, b3, b4, b5, b6⟩ := hR.2 ho
  refine ⟨⟨?_, ?_, ?_, ?_, ?_, ?_, ?_⟩, ?_, ?_, ?_, ?_, ?_, ?_⟩
  · rw [h0, hs 1 (by omega)]; exact a1
  · rw [h0, hs 2 (by omega)]; exact a2
  · rw [h0, hs 3 (by omega)]; exact a3
  · rw [h0, hs 4 (by omega)]; exact a4
  · rw [h0, hs 11 (by omega)]; exact a5
  · rw [h0, hs 14 (by omega), hs 10 (by omega)]; exact a6
  · rw [h0, hs 5 (by omega)]; exact a7
  · rw [h0, hs 6 (by omega)]; exact b1
  · rw [h0, hs 7 (by omega)]; exact b2
  · rw [h0, hs 8 (by omega)]; exact b3
  · rw [h0, hs 9 (by omega)]; exact b4
  · rw [h0, hs 12 (by omega)]; exact b5
  · rw [h0, hs 13 (by omega)]; exact b6
/-- the sum of the open times depends on little -/
theorem cntLp_c {f f' : Nat → Int32 → Int32} : ∀ (r i : Nat) (a : Int32), (∀ j, i ≤ j → j < i + r → ∀ a, f j a = f' j a) → cntLp f r i a = cntLp f' r i a
  | 0, _, _, _ => rfl
  | r + 1, i, a, h => by
    rw [cntLp, cntLp, h i (Nat.le_refl i) (by omega), cntLp_c r (i + 1) _ (fun j h1 h2 => h j (by omega) (by omega))]
theorem mInc_nI {σ : Nat → Int32} {i : Nat} (hi : i < 8) : mInc σ (nI i) = if σ (101 + 16 * i) = 1 then 1 else 0 := by
  have hin : ∀ i : Nat, i < 8 → mIn (nI i) 0 7 = 1 := by decide +kernel
  unfold mInc
  rw [hin i hi, if_neg (by decide), nI_clamp (show i < 2 ^ 31 by omega)]
theorem mInc_nI0 {σ : Nat → Int32} {i : Nat} (hi : i < 8) : mInc σ (nI i) = 0 ↔ ¬ σ (101 + 16 * i) = 1 := by
  rw [mInc_nI hi]
  split <;> simp [*]
theorem mAll_c {σ τ : Nat → Int32} (h10 : τ 10 = σ 10) (h2 : τ 2 = σ 2) (hi : ∀ i, i < 8 → τ (101 + 16 * i) = σ (101 + 16 * i) ∧ (σ (101 + 16 * i) = 1 → τ (101 + 16 * i + 7) = σ (101 + 16 * i + 7))) : mAll τ = mAll σ := by
  unfold mAll
  rw [h10]
  refine cntLp_c 8 0 _ (fun j _ hj a => ?_)
  unfold mAllN
  rw [mInc_nI (show j < 8 by omega), mInc_nI (show j < 8 by omega), (hi j (by omega)).1]
  by_cases ho : σ (101 + 16 * j) = 1
  · rw [if_pos ho, if_neg (by decide), if_neg (by decide), h2, (hi j (by omega)).2 ho]
  · rw [if_neg ho, if_pos rfl, if_pos rfl]
/-- whole copies and what lies beside -/
theorem Rep_c {v w : mV} {h o : Nat} {σ τ : Nat → Int32} {d0 : Int32} (hR : Rep v o σ d0) (hw : ∀ c, c < 46 → w (h + c) = v (o + c)) (hs : ∀ q, q < 229 → τ q = σ q) : Rep w h τ d0 := by
  obtain ⟨⟨⟨a1, a2, a3⟩, ⟨b1, b2, b3⟩, c1, c2, c3, c4, c5, c6, c7, c8, c9⟩, hA, hP, hRR, hT, hI⟩ := hR
  have h0 : w h = v o := hw 0 (by omega)
  refine ⟨⟨⟨?_, ?_, ?_⟩, ⟨?_, ?_, ?_⟩, ?_, ?_, ?_, ?_, ?_, ?_, ?_, ?_, ?_⟩, ?_, fun i hi => ?_, fun k hk => ?_, fun k hk => ?_, fun i hi => ?_⟩
  · rw [hw 1 (by omega), hs 0 (by omega)]; exact a1
  · rw [hw 1 (by omega), hs 1 (by omega)]; exact a2
  · rw [hw 1 (by omega), hs 15 (by omega)]; exact a3
  · rw [h0, hs 2 (by omega)]; exact b1
  · rw [h0, hs 13 (by omega)]; exact b2
  · rw [h0, hs 14 (by omega)]; exact b3
  · rw [hw 37 (by omega), hs 3 (by omega)]; exact c1
  · rw [hw 37 (by omega), hs 4 (by omega)]; exact c2
  · rw [hw 37 (by omega), hs 5 (by omega)]; exact c3
  · rw [hw 37 (by omega), hs 6 (by omega)]; exact c4
  · rw [hw 37 (by omega), hs 7 (by omega)]; exact c5
  · rw [hw 37 (by omega), hs 8 (by omega)]; exact c6
  · rw [hw 37 (by omega), hs 9 (by omega)]; exact c7
  · rw [hw 37 (by omega), hs 12 (by omega)]; exact c8
  · rw [hw 37 (by omega), hs 11 (by omega)]; exact c9
  · show w (h + 37) 7 + d0 = mAll τ
    rw [hw 37 (by omega), mAll_c (hs 10 (by omega)) (hs 2 (by omega)) (fun i hi => ⟨hs _ (by omega), fun _ => hs _ (by omega)⟩)]; exact hA
  · obtain ⟨d1, d2, d3, d4, d5⟩ := hP i hi
    refine ⟨?_, ?_, ?_, ?_, ?_⟩
    · rw [Nat.add_assoc, hw _ (by omega), ← Nat.add_assoc, hs _ (by omega)]; exact d1
    · rw [Nat.add_assoc, hw _ (by omega), ← Nat.add_assoc, hs _ (by omega)]; exact d2
    · rw [hw _ (by omega), hs _ (by omega)]; exact d3
    · rw [hw _ (by omega), hs _ (by omega)]; exact d4
    · rw [hw _ (by omega), hs _ (by omega)]; exact d5
  · obtain ⟨d1, d2, d3, d4, d5⟩ := hRR k hk
    refine ⟨?_, ?_, ?_, ?_, fun j hj => ?_⟩
    · rw [Nat.add_assoc, hw _ (by omega), ← Nat.add_assoc, hs _ (by omega)]; exact d1
    · rw [Nat.add_assoc, hw _ (by omega), ← Nat.add_assoc, hs _ (by omega)]; exact d2
    · rw [hw _ (by omega), hs _ (by omega)]; exact d3
    · rw [hw _ (by omega), hs _ (by omega)]; exact d4
    · rw [Nat.add_assoc, hw _ (by omega), ← Nat.add_assoc, hs _ (by omega)]; exact d5 j hj
  · obtain ⟨d1, d2, d3⟩ := hT k hk
    refine ⟨?_, ?_, ?_⟩
    · rw [hw _ (by omega), hs _ (by omega)]; exact d1
    · rw [hw _ (by omega), hs _ (by omega)]; exact d2
    · rw [hw _ (by omega), hs _ (by omega)]; exact d3
  · have e0 : τ (101 + 16 * i) = σ (101 + 16 * i) := hs _ (by omega)
    refine ⟨by rw [hw _ (by omega), e0]; exact (hI i hi).1, fun ho => ?_⟩
    rw [e0] at ho
    obtain ⟨⟨a1, a2, a3, a4, a5, a6, a7⟩, b1, b2, b3, b4, b5, b6⟩ := (hI i hi).2 ho
    refine ⟨⟨?_, ?_, ?_, ?_, ?_, ?_, ?_⟩, ?_, ?_, ?_, ?_, ?_, ?_⟩
    · rw [hw _ (by omega), hs _ (by omega)]; exact a1
    · rw [hw _ (by omega), hs _ (by omega)]; exact a2
    · rw [hw _ (by omega), hs _ (by omega)]; exact a3
    · rw [hw _ (by omega), hs _ (by omega)]; exact a4
    · rw [hw _ (by omega), hs _ (by omega)]; exact a5
    · rw [hw _ (by omega), hs _ (by omega), hs _ (by omega)]; exact a6
    · rw [hw _ (by omega), hs _ (by omega)]; exact a7
    · rw [hw _ (by omega), hs _ (by omega)]; exact b1
    · rw [hw _ (by omega), hs _ (by omega)]; exact b2
    · rw [hw _ (by omega), hs _ (by omega)]; exact b3
    · rw [hw _ (by omega), hs _ (by omega)]; exact b4
    · rw [hw _ (by omega), hs _ (by omega)]; exact b5
    · rw [hw _ (by omega), hs _ (by omega)]; exact b6
/-! leaves -/
theorem fIn_mIn {x : Int32} {R L : Nat} (hRL : R ≤ L) (hL : L < 2147483647) : fIn x (nI R) (nI L) = mIn x 0 (nI R - 1) := by
  unfold fIn mIn
  by_cases h0 : x < 0
  · rw [if_pos h0, if_pos h0]
  · rw [if_neg h0, if_neg h0]
    obtain ⟨j, hj, rfl⟩ := nI_of h0
    by_cases hR : R = 0
    · subst hR
      rw [if_neg (by rw [na_lt rfl rfl hj (by omega)]; omega), if_pos]
      exact Int32.lt_of_lt_of_le (b := 0) (by decide +kernel) (nI_pos' hj)
    · rw [show nI R - 1 = nI (R - 1) by rw [show R = R - 1 + 1 by omega, nI_pred, Nat.add_sub_cancel]]
      by_cases h : j < R
      · rw [if_pos ((na_lt rfl rfl hj (by omega)).mpr h), if_pos ((na_lt rfl rfl hj (by omega)).mpr (by omega)), if_neg]
        rw [na_lt rfl rfl (by omega) hj]; omega
      · rw [if_neg (fun z => h ((na_lt rfl rfl hj (by omega)).mp z)), if_pos ((na_lt rfl rfl (by omega) hj).mpr (by omega))]
theorem rep_hasP {v : mV} {h : Nat} {σ : Nat → Int32} {d0 : Int32} (hR : Rep v h σ d0) (hI : MI σ) (x : Int32) : rsHasP v h x = mIn x 0 (σ 0 - 1) := by
  obtain ⟨P, p1, p2⟩ := hI.1
  unfold rsHasP
  rw [hR.1.1.1, p2, show (8 : Int32) = nI 8 from kn_8]
  exact fIn_mIn p1 (by omega)
theorem rep_hasR {v : mV} {h : Nat} {σ : Nat → Int32} {d0 : Int32} (hR : Rep v h σ d0) (hI : MI σ) (x : Int32) : rsHasR v h x = mIn x 0 (σ 1 - 1) := by
  obtain ⟨P, p1, p2, -⟩ := hI.2.1
  unfold rsHasR
  rw [hR.1.1.2.1, p2, show (3 : Int32) = nI 3 from kn_3]
  exact fIn_mIn p1 (by omega)
/-- the flags of the incidents -/
def IB (σ : Nat → Int32) : Prop := ∀ i, i < 8 → (σ (101 + 16 * i) = 0 ∨ σ (101 + 16 * i) = 1)
theorem rep_open {v : mV} {h : Nat} {σ : Nat → Int32} {d0 : Int32} (hR : Rep v h σ d0) (hB : IB σ) (x : Int32) : hsOpen v h x = mInc σ x := by
  unfold hsOpen mInc
  by_cases h0 : x < 0
  · rw [if_pos h0, if_pos]
    unfold mIn
    rw [if_pos h0]
  · obtain ⟨j, hj, rfl⟩ := nI_of h0
    rw [if_neg h0, nI_clamp (show j < 2 ^ 31 by omega)]
    by_cases h8 : j < 8
    · have hin : ∀ i : Nat, i < 8 → mIn (nI i) 0 7 = 1 := by decide +kernel
      rw [if_pos ((na_lt rfl kn_8 hj (by omega)).mpr h8), (hR.2.2.2.2.2 j h8).1, hin j h8, if_neg (show ¬ (1 : Int32) = 0 by decide)]
      rcases hB j h8 with e | e
      · rw [e, if_pos rfl, if_neg (by decide)]
      · rw [e, if_neg (by decide), if_pos rfl]
    · rw [if_neg (fun z => h8 ((na_lt rfl kn_8 hj (by omega)).mp z)), if_pos]
      unfold mIn
      rw [if_neg h0, if_pos ((na_lt kn_7 rfl (by omega) hj).mpr (by omega))]
theorem rep_regLp {v : mV} {h : Nat} {σ : Nat → Int32} {d0 : Int32} (hR : Rep v h σ d0) {R : Nat} (hR3 : R ≤ 3) (eR : σ 1 = nI R) (hr : Int32) : ∀ (r q i : Nat), i + r = 3 → i + q = R → rsRegionLp v h hr r i = mRegLp σ hr q i
  | 0, q, i, h1, h2 => by
    have : q = 0 := by omega
    subst this
    rfl
  | r + 1, 0, i, h1, h2 => by
    unfold rsRegionLp mRegLp
    rw [hR.1.1.2.1, eR, if_neg (by rw [na_lt rfl rfl (by omega) (by omega)]; omega)]
  | r + 1, q + 1, i, h1, h2 => by
    obtain ⟨a, b, c, d, -⟩ := hR.2.2.2.1 i (by omega)
    unfold rsRegionLp mRegLp
    rw [hR.1.1.2.1, eR, if_pos ((na_lt rfl rfl (by omega) (by omega)).mpr (by omega)), a, b, d, rep_regLp hR hR3 eR hr r q (i + 1) (by omega) (by omega)]
theorem rep_region {v : mV} {h : Nat} {σ : Nat → Int32} {d0 : Int32} (hR : Rep v h σ d0) (hI : MI σ) (t : Int32) : rsRegionAt v h t = mRegion σ t := by
  obtain ⟨R, r1, r2⟩ := MI_R hI
  unfold rsRegionAt mRegion
  rw [r2, nI_clamp (show R < 2 ^ 31 by omega)]
  exact rep_regLp hR r1 r2 _ 3 R 0 (by omega) (by omega)
