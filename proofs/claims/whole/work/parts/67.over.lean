/-! ===== class and reference: overrides ===== -/
theorem cp_val {n k : Nat} {σ : Nat → Int32} (hn : n ≤ k) (hk : k < 6) : ∀ d, d < 3 → mCpLp n k 3 0 σ (83 + 3 * n + d) = σ (83 + 3 * k + d) := by
  have e : mCpLp n k 3 0 σ = upd (upd (upd σ (83 + 3 * n) (σ (83 + 3 * k))) (83 + 3 * n + 1) (σ (83 + 3 * k + 1))) (83 + 3 * n + 2) (σ (83 + 3 * k + 2)) := by
    show upd (upd (upd σ (83 + 3 * n) (σ (83 + 3 * k))) (83 + 3 * n + 1) (upd σ (83 + 3 * n) (σ (83 + 3 * k)) (83 + 3 * k + 1))) (83 + 3 * n + 2) (upd (upd σ (83 + 3 * n) (σ (83 + 3 * k))) (83 + 3 * n + 1) (upd σ (83 + 3 * n) (σ (83 + 3 * k)) (83 + 3 * k + 1)) (83 + 3 * k + 2)) = _
    rw [upd_o (show 83 + 3 * k + 1 ≠ 83 + 3 * n by omega), upd_o (show 83 + 3 * k + 2 ≠ 83 + 3 * n + 1 by omega), upd_o (show 83 + 3 * k + 2 ≠ 83 + 3 * n by omega)]
  intro d hd
  rw [e]
  have : d = 0 ∨ d = 1 ∨ d = 2 := by omega
  rcases this with rfl | rfl | rfl
  · rw [upd_o (by omega), upd_o (by omega)]; exact upd_r
  · rw [upd_o (by omega), upd_r]
  · rw [upd_r]
/-- a change in the stand-ins -/
theorem Rep_t {v w : mV} {h : Nat} {σ τ : Nat → Int32} {d : Int32} (hR : Rep v h σ d) (hc : w (h + 1) 3 = τ 0 ∧ w (h + 1) 4 = τ 1 ∧ w (h + 1) 5 = τ 15) (hw : ∀ c, c ≠ 1 → (c < 30 ∨ 36 ≤ c) → w (h + c) = v (h + c)) (hs : ∀ q, q ≠ 15 → (q < 83 ∨ 101 ≤ q) → τ q = σ q) (hT : ∀ k, k < 6 → RT w h τ k) : Rep w h τ d := by
  obtain ⟨⟨-, ⟨b1, b2, b3⟩, c1, c2, c3, c4, c5, c6, c7, c8, c9⟩, hA, hP, hRR, -, hI⟩ := hR
  have h0 : w h = v h := hw 0 (by omega) (by omega)
  have h37 := hw 37 (by omega) (by omega)
  refine ⟨⟨hc, ⟨?_, ?_, ?_⟩, ?_, ?_, ?_, ?_, ?_, ?_, ?_, ?_, ?_⟩, ?_, fun i hi => RP_c (hP i hi) (hw _ (by omega) (by omega)) (by rw [Nat.add_assoc]; exact hw _ (by omega) (by omega)) (fun d hd => hs _ (by omega) (by omega)), fun k hk => RR_c (hRR k hk) (hw _ (by omega) (by omega)) (by rw [Nat.add_assoc]; exact hw _ (by omega) (by omega)) (by rw [Nat.add_assoc]; exact hw _ (by omega) (by omega)) (fun d hd => hs _ (by omega) (by omega)), hT, fun i hi => RI_c (hI i hi) (hw _ (by omega) (by omega)) (fun d hd => hs _ (by omega) (by omega))⟩
  · rw [h0, hs 2 (by omega) (by omega)]; exact b1
  · rw [h0, hs 13 (by omega) (by omega)]; exact b2
  · rw [h0, hs 14 (by omega) (by omega)]; exact b3
  · rw [h37, hs 3 (by omega) (by omega)]; exact c1
  · rw [h37, hs 4 (by omega) (by omega)]; exact c2
  · rw [h37, hs 5 (by omega) (by omega)]; exact c3
  · rw [h37, hs 6 (by omega) (by omega)]; exact c4
  · rw [h37, hs 7 (by omega) (by omega)]; exact c5
  · rw [h37, hs 8 (by omega) (by omega)]; exact c6
  · rw [h37, hs 9 (by omega) (by omega)]; exact c7
  · rw [h37, hs 12 (by omega) (by omega)]; exact c8
  · rw [h37, hs 11 (by omega) (by omega)]; exact c9
  · show w (h + 37) 7 + d = mAll τ
    rw [h37, mAll_c (hs 10 (by omega) (by omega)) (hs 2 (by omega) (by omega)) (fun i hi => ⟨hs _ (by omega) (by omega), fun _ => hs _ (by omega) (by omega)⟩)]
    exact hA
theorem rep_cp {v : mV} {h n k : Nat} {σ : Nat → Int32} {d : Int32} (hR : Rep v h σ d) (hn : n ≤ k) (hk : k < 6) : Rep (cpRow v (h + (30 + n)) (h + (30 + k))) h (mCpLp n k 3 0 σ) d := by
  have hs : ∀ q, (q < 83 + 3 * n ∨ 83 + 3 * n + 3 ≤ q) → mCpLp n k 3 0 σ q = σ q := fun q hq => mCpLp_o 3 0 σ (by omega)
  obtain ⟨a1, a2, a3⟩ := hR.1.1
  refine Rep_t hR ⟨?_, ?_, ?_⟩ (fun c h0 h1 => cpRow_o (by omega)) (fun q h0 h1 => hs q (by omega)) (fun j hj => ?_)
  · rw [cpRow_o (by omega), hs 0 (by omega)]; exact a1
  · rw [cpRow_o (by omega), hs 1 (by omega)]; exact a2
  · rw [cpRow_o (by omega), hs 15 (by omega)]; exact a3
  · by_cases hjn : j = n
    · subst hjn
      obtain ⟨t1, t2, t3⟩ := hR.2.2.2.2.1 k hk
      have hv := cp_val (σ := σ) hn hk
      refine ⟨?_, ?_, ?_⟩
      · rw [cpRow_r, show mCpLp j k 3 0 σ (83 + 3 * j) = σ (83 + 3 * k) from hv 0 (by omega)]; exact t1
      · rw [cpRow_r, hv 1 (by omega)]; exact t2
      · rw [cpRow_r, hv 2 (by omega)]; exact t3
    · exact RT_c (hR.2.2.2.2.1 j hj) (cpRow_o (by omega)) (fun d hd => hs _ (by omega))
theorem rep_dropLp {h O : Nat} (hO : O ≤ 6) {t : Int32} : ∀ (r q i kp : Nat) (v : mV) (σ : Nat → Int32), i + r = 6 → i + q = O → kp ≤ i → Rep v h σ 0 → σ 15 = nI O → σ 2 = t → (rsDropLp h t r i kp v).1 = (mClrLp q i kp σ).1 ∧ Rep (rsDropLp h t r i kp v).2 h (mClrLp q i kp σ).2 0
  | 0, q, i, kp, v, σ, h1, h2, _, hR, _, _ => by
    have : q = 0 := by omega
    subst this
    exact ⟨rfl, hR⟩
  | r + 1, 0, i, kp, v, σ, h1, h2, hk, hR, e15, _ => by
    have e : rsDropLp h t (r + 1) i kp v = (kp, v) := by
      unfold rsDropLp
      rw [hR.1.1.2.2, e15, if_neg (by rw [na_lt rfl rfl (by omega) (by omega)]; omega)]
    rw [e]
    exact ⟨rfl, hR⟩
  | r + 1, q + 1, i, kp, v, σ, h1, h2, hk, hR, e15, et => by
    obtain ⟨t1, t2, t3⟩ := hR.2.2.2.2.1 i (by omega)
    unfold rsDropLp mClrLp
    rw [hR.1.1.2.2, e15, if_pos ((na_lt rfl rfl (by omega) (by omega)).mpr (by omega)), t3, et]
    by_cases hc : t < σ (83 + 3 * i + 2)
    · rw [if_pos hc, if_pos hc]
      exact rep_dropLp hO r q (i + 1) (kp + 1) _ _ (by omega) (by omega) (by omega) (rep_cp hR hk (by omega)) (by rw [mCpLp_o 3 0 σ (by omega)]; exact e15) (by rw [mCpLp_o 3 0 σ (by omega)]; exact et)
    · rw [if_neg hc, if_neg hc]
      exact rep_dropLp hO r q (i + 1) kp v σ (by omega) (by omega) (by omega) hR e15 et
theorem mCpLp_self {k : Nat} {σ : Nat → Int32} : ∀ r i, mCpLp k k r i σ = σ
  | 0, _ => rfl
  | r + 1, i => by
    rw [mCpLp, show upd σ (83 + 3 * k + i) (σ (83 + 3 * k + i)) = σ from ?_]
    · exact mCpLp_self r (i + 1)
    · funext q
      by_cases hq : q = 83 + 3 * k + i
      · subst hq; rw [upd_r]
      · rw [upd_o hq]
theorem mClrLp_full : ∀ (r k : Nat) (σ : Nat → Int32), (mClrLp r k k σ).1 = k + r → (mClrLp r k k σ).2 = σ
  | 0, _, _, _ => rfl
  | r + 1, k, σ, h => by
    unfold mClrLp at h ⊢
    by_cases hc : σ 2 < σ (83 + 3 * k + 2)
    · rw [if_pos hc] at h ⊢
      rw [mCpLp_self] at h ⊢
      exact mClrLp_full r (k + 1) σ (by omega)
    · rw [if_neg hc] at h
      have := mClrLp_le r (k + 1) k σ
      omega
theorem rep_override {v : mV} {h : Nat} {σ : Nat → Int32} {T B : Nat} (hR : Rep v h σ 0) (hN : IN σ T B) (x y z : Int32) : OK (hsPutStand v h x y z) (mOverrides σ x y z) h B := by
  have hI := hN.1.2.1.1
  obtain ⟨O, hO, eO⟩ := hI.2.2.2.1
  unfold hsPutStand mOverrides
  rw [rep_hasR hR hI, rep_hasP hR hI]
  by_cases h1 : mIn x 0 (σ 1 - 1) = 0
  · rw [if_pos h1, if_pos h1]; exact OK_id hR hN
  · rw [if_neg h1, if_neg h1]
    by_cases h2 : mIn y 0 (σ 0 - 1) = 0
    · rw [if_pos h2, if_pos h2]; exact OK_id hR hN
    · rw [if_neg h2, if_neg h2]
      by_cases h3 : z < 1
      · rw [if_pos h3, if_pos (by unfold mIn; rw [if_pos h3])]; exact OK_id hR hN
      · rw [if_neg h3]
        by_cases h4 : 99 < z
        · rw [if_pos h4, if_pos (by unfold mIn; rw [if_neg h3, if_pos h4])]; exact OK_id hR hN
        · have hz : ¬ mIn z 1 99 = 0 := by unfold mIn; rw [if_neg h3, if_neg h4]; decide
          rw [if_neg h4, if_neg hz]
          obtain ⟨hF, hF6⟩ := mForce_n hI
          have e15 := mClears_15 (σ := σ)
          obtain ⟨g1, g2⟩ := rep_dropLp hO (t := v h 3) 6 O 0 0 v σ rfl (by omega) (Nat.le_refl 0) hR eO hR.1.2.1.1.symm
          have hcl : (σ 15).toNatClampNeg = O := by rw [eO]; exact nI_clamp (by omega)
          have hdrop : Rep (rsDrop v h (v h 3)) h (mClears σ) 0 := by
            unfold rsDrop mClears
            rw [hcl, g1]
            obtain ⟨a1, a2, a3⟩ := g2.1.1
            refine Rep_t g2 ⟨?_, ?_, ?_⟩ (fun c h0 h1 => u2_o (by omega)) (fun q h0 h1 => upd_o h0) (fun j hj => RT_c (g2.2.2.2.2.1 j hj) (u2_o (by omega)) (fun d hd => upd_o (by omega)))
            · rw [u2_r, upd_o (by omega), upd_o (by omega)]; exact a1
            · rw [u2_r, upd_o (by omega), upd_o (by omega)]; exact a2
            · rw [u2_r, upd_r, upd_r]
          have hd5 : rsDrop v h (v h 3) (h + 1) 5 = mClears σ 15 := hdrop.1.1.2.2
          have hM := MT_overrides (x := x) (y := y) (z := z) hN.1.2.1
          unfold mOverrides at hM
          rw [if_neg h1, if_neg h2, if_neg hz] at hM
          unfold rsAddStand
          rw [hd5]
          rw [hcl] at hF hF6 e15
          by_cases hN6 : (mClrLp O 0 0 σ).1 = 6
          · have hO6 : O = 6 := by
              have := mClrLp_le O 0 0 σ
              omega
            have hsame : mClears σ = σ := by
              have hf := mClrLp_full O 0 σ (by rw [hN6, hO6])
              unfold mClears
              rw [hcl, hf, hN6]
              funext q
              by_cases hq : q = 15
              · subst hq; rw [upd_r, eO, hO6]
              · rw [upd_o hq]
            rw [hsame] at hdrop
            rw [e15, hN6, if_neg (by decide +kernel), if_neg (by decide +kernel), if_pos (by rw [hF, hN6]; exact kn_6.symm)]
            exact OK_mk rfl hdrop hN
          · have hlt : (mClrLp O 0 0 σ).1 < 6 := by omega
            rw [if_neg (show ¬ mForce σ = 6 by rw [hF]; exact fun q => hN6 ((na_eq rfl kn_6 (by omega) (by omega)).mp q))] at hM ⊢
            rw [e15] at hM ⊢
            rw [if_neg (nI_nneg (by omega)), if_pos ((na_lt rfl kn_6 (by omega) (by omega)).mpr hlt)]
            generalize (mClrLp O 0 0 σ).1 = N at hlt e15 hM
            rw [nI_clamp (show N < 2 ^ 31 by omega)] at hM ⊢
            refine OK_mk (T := T) rfl ?_ ?_
            · obtain ⟨a1, a2, a3⟩ := hdrop.1.1
              have h2v : mClears σ 2 = v h 3 := (mClears_o hI (by omega)).trans hR.1.2.1.1.symm
              unfold mOvr4
              refine Rep_t hdrop ⟨?_, ?_, ?_⟩ (fun c h0 h1 => ?_) (fun q h0 h1 => ?_) (fun j hj => ?_)
              · simp (disch := omega) only [u2_o, u2_r, upd_o, upd_r]; exact a1
              · simp (disch := omega) only [u2_o, u2_r, upd_o, upd_r]; exact a2
              · simp (disch := omega) only [u2_o, u2_r, upd_o, upd_r]; rw [e15]
              · simp (disch := omega) only [u2_o]
              · simp (disch := omega) only [upd_o]
              · by_cases hjN : j = N
                · subst hjN
                  refine ⟨?_, ?_, ?_⟩
                  · simp (disch := omega) only [u2_o, u2_r, upd_o, upd_r]
                  · simp (disch := omega) only [u2_o, u2_r, upd_o, upd_r]
                  · simp (disch := omega) only [u2_o, u2_r, upd_o, upd_r]
                    rw [h2v, Int32.mul_comm]
                · refine RT_c (hdrop.2.2.2.2.1 j hj) ?_ (fun d hd => ?_)
                  · simp (disch := omega) only [u2_o]
                  · simp (disch := omega) only [upd_o]
            · have hs : ∀ q, (q < 15 ∨ (15 < q ∧ q < 83) ∨ 101 ≤ q) → mOvr4 (mClears σ) N x y z q = σ q := fun q hq => by
                unfold mOvr4
                rw [upd_o (by omega), upd_o (by omega), upd_o (by omega), upd_o (by omega)]
                exact mClears_o hI hq
              exact IN_c hN hM (Nat.le_refl B) ⟨hs _ (by omega), hs _ (by omega), hs _ (by omega), hs _ (by omega), hs _ (by omega)⟩ (fun k hk => hs _ (by omega)) (fun k d hk h1 h2 => hs _ (by omega)) (fun k d hk hd => hs _ (by omega))
