/-! ===== class and reference: a minute ===== -/
/-- a change in one incident and the totals -/
theorem Rep_i {v w : mV} {h i : Nat} {σ τ : Nat → Int32} {d0 d : Int32} (hR : Rep v h σ d0) (hi : i < 8) (hw : ∀ c, c ≠ 37 → c ≠ 38 + i → w (h + c) = v (h + c)) (hs : ∀ q, (q ≤ 2 ∨ 13 ≤ q) → (q < 101 + 16 * i ∨ 101 + 16 * i + 16 ≤ q) → τ q = σ q)
    (ht : w (h + 37) 0 = τ 3 ∧ w (h + 37) 1 = τ 4 ∧ w (h + 37) 2 = τ 5 ∧ w (h + 37) 3 = τ 6 ∧ w (h + 37) 4 = τ 7 ∧ w (h + 37) 5 = τ 8 ∧ w (h + 37) 6 = τ 9 ∧ w (h + 37) 8 = τ 12 ∧ w (h + 37) 9 = τ 11) (hA : RA w h τ d) (hI : RI w h τ i) : Rep w h τ d := by
  obtain ⟨⟨⟨a1, a2, a3⟩, ⟨b1, b2, b3⟩, -⟩, -, hP, hRR, hT, hII⟩ := hR
  have h0 : w h = v h := hw 0 (by omega) (by omega)
  refine ⟨⟨⟨?_, ?_, ?_⟩, ⟨?_, ?_, ?_⟩, ht⟩, hA, fun j hj => RP_c (hP j hj) (hw _ (by omega) (by omega)) (by rw [Nat.add_assoc]; exact hw _ (by omega) (by omega)) (fun d hd => hs _ (by omega) (by omega)), fun k hk => RR_c (hRR k hk) (hw _ (by omega) (by omega)) (by rw [Nat.add_assoc]; exact hw _ (by omega) (by omega)) (by rw [Nat.add_assoc]; exact hw _ (by omega) (by omega)) (fun d hd => hs _ (by omega) (by omega)), fun k hk => RT_c (hT k hk) (hw _ (by omega) (by omega)) (fun d hd => hs _ (by omega) (by omega)), fun j hj => ?_⟩
  · rw [hw 1 (by omega) (by omega), hs 0 (by omega) (by omega)]; exact a1
  · rw [hw 1 (by omega) (by omega), hs 1 (by omega) (by omega)]; exact a2
  · rw [hw 1 (by omega) (by omega), hs 15 (by omega) (by omega)]; exact a3
  · rw [h0, hs 2 (by omega) (by omega)]; exact b1
  · rw [h0, hs 13 (by omega) (by omega)]; exact b2
  · rw [h0, hs 14 (by omega) (by omega)]; exact b3
  · by_cases hj1 : j = i
    · subst hj1; exact hI
    · exact RI_c (hII j hj) (hw _ (by omega) (by omega)) (fun d hd => hs _ (by omega) (by omega))
theorem RA_s {v w : mV} {h : Nat} {σ τ : Nat → Int32} {d : Int32} (hR : v (h + 37) 7 + (1 + d) = mAll σ) (hw : w (h + 37) 7 = v (h + 37) 7 + 1) (h10 : τ 10 = σ 10) (h2 : τ 2 = σ 2) (hi : ∀ i, i < 8 → τ (101 + 16 * i) = σ (101 + 16 * i) ∧ (σ (101 + 16 * i) = 1 → τ (101 + 16 * i + 7) = σ (101 + 16 * i + 7))) : RA w h τ d := by
  show w (h + 37) 7 + d = mAll τ
  rw [hw, mAll_c h10 h2 hi, Int32.add_assoc]
  exact hR
theorem rep_A1 {v : mV} {h i : Nat} {σ : Nat → Int32} {d : Int32} (hR : Rep v h σ (1 + d)) (hi : i < 8) (ho : σ (101 + 16 * i) = 1) : Rep (u2 (u2 (u2 v (h + 37) 7 (v (h + 37) 7 + 1)) (h + (38 + i)) 11 (v (h + (38 + i)) 11 + 1)) (h + 37) 6 (v (h + 37) 6 + 1)) h (mMinA σ i 1) d := by
  obtain ⟨c1, c2, c3, c4, c5, c6, c7, c8, c9⟩ := hR.1.2.2
  obtain ⟨x0, x1⟩ := hR.2.2.2.2.2 i hi
  obtain ⟨⟨f1, f2, f3, f4, f5, f6, f7⟩, g1, g2, g3, g4, g5, g6⟩ := x1 ho
  refine Rep_i hR hi (fun c h1 h2 => ?_) (fun q h1 h2 => ?_) ⟨?_, ?_, ?_, ?_, ?_, ?_, ?_, ?_, ?_⟩ (RA_s hR.2.1 ?_ ?_ ?_ (fun j hj => ⟨?_, fun _ => ?_⟩)) ⟨?_, fun _ => ⟨⟨?_, ?_, ?_, ?_, ?_, ?_, ?_⟩, ?_, ?_, ?_, ?_, ?_, ?_⟩⟩
  all_goals (try unfold mMinA)
  all_goals simp (disch := omega) only [u2_o, u2_r, upd_o, upd_r]
  all_goals first | assumption | (rw [c7]) | (rw [g4])
theorem rep_A0 {v : mV} {h i : Nat} {σ : Nat → Int32} {d : Int32} (hR : Rep v h σ (1 + d)) (hi : i < 8) (ho : σ (101 + 16 * i) = 1) : Rep (u2 v (h + 37) 7 (v (h + 37) 7 + 1)) h (mMinA σ i 0) d := by
  obtain ⟨c1, c2, c3, c4, c5, c6, c7, c8, c9⟩ := hR.1.2.2
  obtain ⟨x0, x1⟩ := hR.2.2.2.2.2 i hi
  obtain ⟨⟨f1, f2, f3, f4, f5, f6, f7⟩, g1, g2, g3, g4, g5, g6⟩ := x1 ho
  refine Rep_i hR hi (fun c h1 h2 => ?_) (fun q h1 h2 => ?_) ⟨?_, ?_, ?_, ?_, ?_, ?_, ?_, ?_, ?_⟩ (RA_s hR.2.1 ?_ ?_ ?_ (fun j hj => ⟨?_, fun _ => ?_⟩)) ⟨?_, fun _ => ⟨⟨?_, ?_, ?_, ?_, ?_, ?_, ?_⟩, ?_, ?_, ?_, ?_, ?_, ?_⟩⟩
  all_goals (try unfold mMinA)
  all_goals simp (disch := omega) only [u2_o, u2_r, upd_o, upd_r, Int32.add_zero]
  all_goals assumption
theorem rep_hand {v : mV} {h i : Nat} {σ : Nat → Int32} {d : Int32} (hR : Rep v h σ (1 + d)) (hi : i < 8) (ho : σ (101 + 16 * i) = 1) : Rep (u2 (u2 (u2 (u2 v (h + 37) 7 (v (h + 37) 7 + 1)) (h + (38 + i)) 3 0) (h + (38 + i)) 12 (v (h + (38 + i)) 12 + 1)) (h + 37) 4 (v (h + 37) 4 + 1)) h (mHand σ i) d := by
  obtain ⟨c1, c2, c3, c4, c5, c6, c7, c8, c9⟩ := hR.1.2.2
  obtain ⟨x0, x1⟩ := hR.2.2.2.2.2 i hi
  obtain ⟨⟨f1, f2, f3, f4, f5, f6, f7⟩, g1, g2, g3, g4, g5, g6⟩ := x1 ho
  refine Rep_i hR hi (fun c h1 h2 => ?_) (fun q h1 h2 => ?_) ⟨?_, ?_, ?_, ?_, ?_, ?_, ?_, ?_, ?_⟩ (RA_s hR.2.1 ?_ ?_ ?_ (fun j hj => ⟨?_, fun _ => ?_⟩)) ⟨?_, fun _ => ⟨⟨?_, ?_, ?_, ?_, ?_, ?_, ?_⟩, ?_, ?_, ?_, ?_, ?_, ?_⟩⟩
  all_goals (try unfold mHand mMinA)
  all_goals simp (disch := omega) only [u2_o, u2_r, upd_o, upd_r, Int32.add_zero]
  all_goals first | assumption | (rw [c5]) | (rw [g5])
theorem rep_esc {v : mV} {h i : Nat} {σ : Nat → Int32} {d : Int32} (hR : Rep v h σ (1 + d)) (hi : i < 8) (ho : σ (101 + 16 * i) = 1) : Rep (u2 (u2 (u2 (u2 v (h + 37) 7 (v (h + 37) 7 + 1)) (h + (38 + i)) 3 (v (h + (38 + i)) 3 + 1)) (h + (38 + i)) 13 (v (h + (38 + i)) 13 + 1)) (h + 37) 5 (v (h + 37) 5 + 1)) h (mEsc σ i) d := by
  obtain ⟨c1, c2, c3, c4, c5, c6, c7, c8, c9⟩ := hR.1.2.2
  obtain ⟨x0, x1⟩ := hR.2.2.2.2.2 i hi
  obtain ⟨⟨f1, f2, f3, f4, f5, f6, f7⟩, g1, g2, g3, g4, g5, g6⟩ := x1 ho
  refine Rep_i hR hi (fun c h1 h2 => ?_) (fun q h1 h2 => ?_) ⟨?_, ?_, ?_, ?_, ?_, ?_, ?_, ?_, ?_⟩ (RA_s hR.2.1 ?_ ?_ ?_ (fun j hj => ⟨?_, fun _ => ?_⟩)) ⟨?_, fun _ => ⟨⟨?_, ?_, ?_, ?_, ?_, ?_, ?_⟩, ?_, ?_, ?_, ?_, ?_, ?_⟩⟩
  all_goals (try unfold mEsc mMinA)
  all_goals simp (disch := omega) only [u2_o, u2_r, upd_o, upd_r, Int32.add_zero]
  all_goals first | assumption | (rw [c6]) | (rw [g6]) | (rw [f3])
/-- an owned incident has been paged for, by a region -/
def IO (σ : Nat → Int32) : Prop := ∀ i, i < 8 → σ (101 + 16 * i) = 1 → 0 < σ (101 + 16 * i + 4) → σ (101 + 16 * i + 14) = 1 ∧ ¬ σ (101 + 16 * i + 11) < 0
def hsAgeP (v : mV) (h i : Nat) (rg : Int32) : mV := if (hsAge v h i rg).1 = 0 then (hsAge v h i rg).2 else hsPage (hsAge v h i rg).2 h i rg
theorem mRegion_s {σ τ : Nat → Int32} (hI : MI σ) (h1 : ∀ q, q = 1 ∨ q = 2 ∨ (56 ≤ q ∧ q < 83) → τ q = σ q) : mRegion τ (τ 2) = mRegion σ (σ 2) := by
  rw [h1 2 (by omega)]
  exact mRegion_c (h1 1 (by omega)) hI (fun q h2 h3 => h1 q (by omega)) _
theorem rep_minOf {v : mV} {h i : Nat} {σ : Nat → Int32} {d : Int32} (hR : Rep v h σ (1 + d)) (hI : MI σ) (hO : IO σ) (hi : i < 8) (ho : σ (101 + 16 * i) = 1) (hL : ∃ l, l ≤ 60000 ∧ σ (101 + 16 * i + 3) = nI l) : Rep (hsAgeP v h i (mRegion σ (σ 2))) h (mMinOf σ i) d := by
  obtain ⟨x0, x1⟩ := hR.2.2.2.2.2 i hi
  obtain ⟨⟨f1, f2, f3, f4, f5, f6, f7⟩, -⟩ := x1 ho
  obtain ⟨w, hw, ew⟩ := hI.2.2.2.2.2.2.2 i hi
  have et : v h 3 = σ 2 := hR.1.2.1.1
  have es : v h 4 = σ 13 := hR.1.2.1.2.1
  have om : ∀ d, mMinA σ i d (101 + 16 * i) = 1 := fun d => by unfold mMinA; rw [upd_o (by omega), upd_o (by omega)]; exact ho
  have oh : mHand σ i (101 + 16 * i) = 1 := by unfold mHand mMinA; simp (disch := omega) only [upd_o]; exact ho
  have oe : mEsc σ i (101 + 16 * i) = 1 := by unfold mEsc mMinA; simp (disch := omega) only [upd_o]; exact ho
  have rA : ∀ d, mRegion (mMinA σ i d) (mMinA σ i d 2) = mRegion σ (σ 2) := fun d => mRegion_s hI (fun q hq => by unfold mMinA; rw [upd_o (by omega), upd_o (by omega)])
  have rH : mRegion (mHand σ i) (mHand σ i 2) = mRegion σ (σ 2) := mRegion_s hI (fun q hq => by unfold mHand mMinA; simp (disch := omega) only [upd_o])
  have rE : mRegion (mEsc σ i) (mEsc σ i 2) = mRegion σ (σ 2) := mRegion_s hI (fun q hq => by unfold mEsc mMinA; simp (disch := omega) only [upd_o])
  have n10 : ¬ (1 : Int32) = 0 := by decide
  unfold hsAgeP mMinOf hsAge
  rw [f4, f5, f7, f6, et, es]
  by_cases hw0 : w = 0
  · subst hw0
    rw [if_neg (show ¬ 0 < σ (101 + 16 * i + 4) by rw [ew]; decide), if_pos (show σ (101 + 16 * i + 4) - 1 = -1 by rw [ew]; decide), if_neg n10]
    exact rep_page (rep_A1 hR hi ho) (mMinA_MI hI) hi (om 1) (rA 1).symm
  · have hpos : 0 < σ (101 + 16 * i + 4) := by rw [ew]; exact (na_lt kn_0 rfl (by omega) (by omega)).mpr (by omega)
    obtain ⟨o1, o2⟩ := hO i hi ho hpos
    have hne : ¬ σ (101 + 16 * i + 4) - 1 = -1 := by
      rw [ew, show w = w - 1 + 1 by omega, nI_pred]
      exact fun z => nI_nneg (j := w - 1) (by omega) (by rw [z]; decide)
    rw [if_pos hpos, if_neg hne, o1, if_neg n10]
    by_cases hb : σ (101 + 16 * i + 11) = mRegion σ (σ 2)
    · rw [if_pos hb, if_neg (show ¬ mRegion σ (σ 2) < 0 by rw [← hb]; exact o2), if_pos hb.symm]
      by_cases ha : σ (101 + 16 * i + 5) = 0
      · rw [if_pos ha, if_pos ha]
        by_cases hz : σ 2 - σ (101 + 16 * i + 10) < σ 13
        · rw [if_pos hz, if_pos hz, if_pos rfl]
          exact rep_A0 hR hi ho
        · rw [if_neg hz, if_neg hz, if_neg n10]
          exact rep_page (rep_esc hR hi ho) (mEsc_MI hI hL) hi oe rE.symm
      · rw [if_neg ha, if_neg ha, if_pos rfl]
        exact rep_A0 hR hi ho
    · have hh : Rep (hsPage (u2 (u2 (u2 (u2 v (h + 37) 7 (v (h + 37) 7 + 1)) (h + (38 + i)) 3 0) (h + (38 + i)) 12 (v (h + (38 + i)) 12 + 1)) (h + 37) 4 (v (h + 37) 4 + 1)) h i (mRegion σ (σ 2))) h (mPage (mHand σ i) i) d := rep_page (rep_hand hR hi ho) (mHand_MI hI) hi oh rH.symm
      rw [if_neg hb, if_neg n10]
      by_cases hr : mRegion σ (σ 2) < 0
      · rw [if_pos hr]; exact hh
      · rw [if_neg hr, if_neg (fun z => hb z.symm)]; exact hh
