/-! ===== class and reference: minutes, pass, follow ===== -/
def K2 (σ τ : Nat → Int32) : Prop := (∀ q, q < 101 → q ≠ 5 → q ≠ 7 → q ≠ 8 → q ≠ 9 → (∀ w, w < 8 → q ≠ 16 + 5 * w + 3) → τ q = σ q) ∧ ∀ k, k < 8 → τ (101 + 16 * k) = σ (101 + 16 * k) ∧ τ (101 + 16 * k + 7) = σ (101 + 16 * k + 7)
theorem K1_2 {σ τ : Nat → Int32} {i : Nat} (h : K1 σ τ i) : K2 σ τ := by
  refine ⟨h.1, fun k hk => ?_⟩
  by_cases hki : k = i
  · subst hki; exact h.2.2
  · exact ⟨h.2.1 _ (by omega) (by omega), h.2.1 _ (by omega) (by omega)⟩
theorem K2_rf {σ : Nat → Int32} : K2 σ σ := ⟨fun _ _ _ _ _ _ _ => rfl, fun _ _ => ⟨rfl, rfl⟩⟩
theorem K2_tr {σ τ ρ : Nat → Int32} (h1 : K2 σ τ) (h2 : K2 τ ρ) : K2 σ ρ := ⟨fun q a b c d e f => (h2.1 q a b c d e f).trans (h1.1 q a b c d e f), fun k hk => ⟨((h2.2 k hk).1).trans (h1.2 k hk).1, ((h2.2 k hk).2).trans (h1.2 k hk).2⟩⟩
theorem K2_all {σ τ : Nat → Int32} (h : K2 σ τ) : mAll τ = mAll σ := mAll_c (h.1 10 (by omega) (by omega) (by omega) (by omega) (by omega) (by omega)) (h.1 2 (by omega) (by omega) (by omega) (by omega) (by omega) (by omega)) (fun i hi => ⟨(h.2 i hi).1, fun _ => (h.2 i hi).2⟩)
theorem rep_minLp {h : Nat} {T : Nat} : ∀ (r i U : Nat) (v : mV) (σ : Nat → Int32) (rg : Int32), i + r = 8 → Rep v h σ (mOpC σ r i) → MI σ → IB σ → IQ σ T → σ 2 = nI T → (∀ k, i ≤ k → k < 8 → ∃ l, l ≤ 60000 ∧ σ (101 + 16 * k + 3) = nI l) → IU σ U → rg = mRegion σ (σ 2) →
    Rep (hsMinLp h rg r i v) h (mMinLp r i σ) 0 ∧ K2 σ (mMinLp r i σ) ∧ IQ (mMinLp r i σ) T ∧ IU (mMinLp r i σ) (U + r)
  | 0, i, U, v, σ, rg, _, hR, _, _, hQ, _, _, hU, _ => ⟨hR, K2_rf, hQ, hU⟩
  | r + 1, i, U, v, σ, rg, hi, hR, hI, hB, hQ, h2, hL, hU, hrg => by
    have e0 := (hR.2.2.2.2.2 i (by omega)).1
    unfold hsMinLp mMinLp
    rw [e0]
    rcases hB i (by omega) with ho | ho
    · rw [if_pos ho, if_pos ((mInc_nI0 (show i < 8 by omega)).mpr (by rw [ho]; decide))]
      rw [mOpC, if_neg (by rw [ho]; decide), Int32.zero_add] at hR
      obtain ⟨a, b, c, u, u1, u2⟩ := rep_minLp r (i + 1) U v σ rg (by omega) hR hI hB hQ h2 (fun k h1 h2 => hL k (by omega) h2) hU hrg
      exact ⟨a, b, c, u, by omega, u2⟩
    · rw [if_neg (by rw [ho]; decide), if_neg (fun z => (mInc_nI0 (show i < 8 by omega)).mp z ho)]
      have hc : (if (hsAge v h i rg).1 = 0 then hsMinLp h rg r (i + 1) (hsAge v h i rg).2 else hsMinLp h rg r (i + 1) (hsPage (hsAge v h i rg).2 h i rg)) = hsMinLp h rg r (i + 1) (hsAgeP v h i rg) := by
        unfold hsAgeP
        split <;> rfl
      rw [hc, hrg]
      rw [mOpC, if_pos ho] at hR
      have hLi := hL i (Nat.le_refl i) (by omega)
      have hA := rep_minOf hR hI (IQ_IO hQ) (show i < 8 by omega) ho hLi
      obtain ⟨k1, kx, ku⟩ := mMinOf_K (U := U) hI (show i < 8 by omega) h2 hLi (hQ i (by omega) ho) hU ho
      have k2 := K1_2 k1
      have hf : ∀ k, k < 8 → mMinOf σ i (101 + 16 * k) = σ (101 + 16 * k) := fun k hk => (k2.2 k hk).1
      have g2 : mMinOf σ i 2 = σ 2 := k2.1 2 (by omega) (by omega) (by omega) (by omega) (by omega) (by omega)
      have hrg2 : mRegion σ (σ 2) = mRegion (mMinOf σ i) (mMinOf σ i 2) := (mRegion_s hI (fun q hq => k2.1 q (by omega) (by omega) (by omega) (by omega) (by omega) (by omega))).symm
      obtain ⟨a, b, c, u, u1, u2⟩ := rep_minLp r (i + 1) (U + 1) (hsAgeP v h i (mRegion σ (σ 2))) (mMinOf σ i) (mRegion σ (σ 2)) (by omega) (by rw [mOpC_c hf r (i + 1) (by omega)]; exact hA) (mMinOf_MI hI (by omega) hLi) (fun k hk => by rw [hf k hk]; exact hB k hk) (fun k hk hok => by
        by_cases hki : k = i
        · subst hki; exact kx
        · exact IX_c (hQ k hk (by rw [← hf k hk]; exact hok)) (fun d hd => k1.2.1 _ (by omega) (by omega))) (g2.trans h2) (fun k h1 h3 => by rw [mMinOf_lvl hI (by omega) hLi (by omega)]; exact hL k (by omega) h3) ku hrg2
      exact ⟨a, K2_tr k2 b, c, u, by omega, u2⟩
/-- time goes on -/
theorem rep_tick {v : mV} {h : Nat} {σ : Nat → Int32} {d d1 : Int32} (hR : Rep v h σ d) (hd : v (h + 37) 7 + d1 = mAll (upd σ 2 (σ 2 + 1))) : Rep (u2 v h 3 (v h 3 + 1)) h (upd σ 2 (σ 2 + 1)) d1 := by
  obtain ⟨⟨⟨a1, a2, a3⟩, ⟨b1, b2, b3⟩, c1, c2, c3, c4, c5, c6, c7, c8, c9⟩, hA, hP, hRR, hT, hI⟩ := hR
  refine ⟨⟨⟨?_, ?_, ?_⟩, ⟨?_, ?_, ?_⟩, ?_, ?_, ?_, ?_, ?_, ?_, ?_, ?_, ?_⟩, ?_, fun i hi => RP_c (hP i hi) (u2_o (by omega)) (u2_o (by omega)) (fun d hd => upd_o (by omega)), fun k hk => RR_c (hRR k hk) (u2_o (by omega)) (u2_o (by omega)) (u2_o (by omega)) (fun d hd => upd_o (by omega)), fun k hk => RT_c (hT k hk) (u2_o (by omega)) (fun d hd => upd_o (by omega)), fun i hi => RI_c (hI i hi) (u2_o (by omega)) (fun d hd => upd_o (by omega))⟩
  all_goals (try unfold RA)
  all_goals simp (disch := omega) only [u2_o, u2_r, upd_o, upd_r]
  all_goals first | assumption | rw [b1]
theorem rep_minute {v : mV} {h : Nat} {σ : Nat → Int32} {T B : Nat} (hR : Rep v h σ 0) (hN : IN σ T B) (hT : T < 30000) : Rep (hsMinute v h) h (mMinute σ) 0 ∧ IN (mMinute σ) (T + 1) B := by
  obtain ⟨⟨hT3, hM, hB, hQ⟩, hE, hK, hU, hAA, hD⟩ := hN
  have hMi := mMinute_MT hM (show T < 31000 by omega) (show T ≤ 60000 by omega)
  have hmi : MI (upd σ 2 (σ 2 + 1)) := by rw [hM.2.1, nI_1]; exact MI_time hM.1 (by omega)
  have hd : v (h + 37) 7 + mOpC σ 8 0 = mAll (upd σ 2 (σ 2 + 1)) := by
    rw [mAll_time, ← hR.2.1, Int32.add_zero]
  have hR1 := rep_tick hR hd
  have hoc : mOpC (upd σ 2 (σ 2 + 1)) 8 0 = mOpC σ 8 0 := mOpC_c (fun k hk => upd_o (by omega)) 8 0 (by omega)
  have hrg : rsRegionAt (u2 v h 3 (v h 3 + 1)) h (v h 3 + 1) = mRegion (upd σ 2 (σ 2 + 1)) (upd σ 2 (σ 2 + 1) 2) := by
    rw [rep_region hR1 hmi, upd_r, hR.1.2.1.1]
  obtain ⟨a, b, c, d⟩ := rep_minLp (T := T + 1) 8 0 (8 * T) (u2 v h 3 (v h 3 + 1)) (upd σ 2 (σ 2 + 1)) _ rfl (by rw [hoc]; exact hR1) hmi (fun k hk => by rw [upd_o (by omega)]; exact hB k hk)
    (fun k hk ho => IX_T (IX_c (hQ k hk (by rw [upd_o (by omega)] at ho; exact ho)) (fun d hd => upd_o (by omega))) (by omega)) (by rw [upd_r, hM.2.1, nI_1]) (fun k _ hk => by
      obtain ⟨l, h1, h2⟩ := hM.2.2 k hk
      exact ⟨l, by omega, by rw [upd_o (by omega)]; exact h2⟩) (by
      obtain ⟨u, h1, h2⟩ := hU
      exact ⟨u, h1, by rw [upd_o (by omega)]; exact h2⟩) hrg
  refine ⟨a, ⟨⟨by omega, hMi, fun k hk => ?_, c⟩, fun k hk => ?_, ?_, ?_, ?_, ?_⟩⟩
  · rw [show mMinute σ (101 + 16 * k) = σ (101 + 16 * k) from ((b.2 k hk).1).trans (upd_o (by omega))]; exact hB k hk
  · obtain ⟨e, h1, h2⟩ := hE k hk
    exact ⟨e, h1, ((b.1 _ (by omega) (by omega) (by omega) (by omega) (by omega) (by omega)).trans (upd_o (by omega))).trans h2⟩
  · obtain ⟨a, w, h1, h2, h3, h4⟩ := hK
    exact ⟨a, w, ((b.1 12 (by omega) (by omega) (by omega) (by omega) (by omega) (by omega)).trans (upd_o (by omega))).trans h1, h2, ((b.1 11 (by omega) (by omega) (by omega) (by omega) (by omega) (by omega)).trans (upd_o (by omega))).trans h3, h4⟩
  · obtain ⟨u, h1, h2⟩ := d
    exact ⟨u, by omega, h2⟩
  · obtain ⟨o, h1, h2⟩ := hAA
    obtain ⟨n, h3, h4⟩ := mOpC_le σ 8 0
    refine ⟨o + n, by omega, ?_⟩
    rw [show mMinute σ = mMinLp 8 0 (upd σ 2 (σ 2 + 1)) from rfl, K2_all b, mAll_time, h2, h4, nI_add]
  · intro k hk m hm em
    have hr : ∀ d, d < 9 → mMinute σ (56 + 9 * k + d) = σ (56 + 9 * k + d) := fun d hd => (b.1 _ (by omega) (by omega) (by omega) (by omega) (by omega) (by omega)).trans (upd_o (by omega))
    intro x y hx hy hxy
    rw [hr _ (by omega), hr _ (by omega)] at hxy
    rw [hr 3 (by omega)] at em
    exact hD k hk m hm em x y hx hy hxy
theorem rep_mins {h B : Nat} : ∀ (r T : Nat) (v : mV) (σ : Nat → Int32), Rep v h σ 0 → IN σ T B → T + r ≤ 30000 → Rep (hsMins h r v) h (mMins r σ) 0 ∧ IN (mMins r σ) (T + r) B
  | 0, T, v, σ, hR, hN, _ => ⟨hR, hN⟩
  | r + 1, T, v, σ, hR, hN, hT => by
    obtain ⟨a, b⟩ := rep_minute hR hN (by omega)
    have := rep_mins r (T + 1) _ _ a b (by omega)
    rw [show T + (r + 1) = T + 1 + r by omega]
    exact this
theorem rep_pass {v : mV} {h : Nat} {σ : Nat → Int32} {T B : Nat} (hR : Rep v h σ 0) (hN : IN σ T B) (x : Int32) : (hsPass v h x).1 = (mPass σ x).1 ∧ Rep (hsPass v h x).2 h (mPass σ x).2 0 ∧ ∃ T', IN (mPass σ x).2 T' B := by
  unfold hsPass mPass mIn
  by_cases h1 : x < 1
  · rw [if_pos h1, if_pos h1, if_pos rfl]; exact ⟨rfl, hR, T, hN⟩
  · rw [if_neg h1, if_neg h1]
    by_cases h6 : 600 < x
    · rw [if_pos h6, if_pos h6, if_pos rfl]; exact ⟨rfl, hR, T, hN⟩
    · rw [if_neg h6, if_neg h6, if_neg (show ¬ (1 : Int32) = 0 by decide), hR.1.2.1.1]
      by_cases h3 : 30000 < σ 2 + x
      · rw [if_pos h3, if_pos h3]; exact ⟨rfl, hR, T, hN⟩
      · rw [if_neg h3, if_neg h3]
        obtain ⟨M, hM, rfl⟩ := mIn_600 (x := x) (by unfold mIn; rw [if_neg h1, if_neg h6]; decide)
        rw [nI_clamp (show M < 2 ^ 31 by omega)]
        have hT := hN.1.1
        rw [hN.1.2.1.2.1, nI_add, na_lt kn_30000 rfl (by omega) (by omega)] at h3
        obtain ⟨a, b⟩ := rep_mins M T v σ hR hN (by omega)
        exact ⟨by show hsMins h M v (h + 37) 2 - v (h + 37) 2 = mMins M σ 5 - σ 5; rw [a.1.2.2.2.2.1, hR.1.2.2.2.2.1], a, T + M, b⟩
