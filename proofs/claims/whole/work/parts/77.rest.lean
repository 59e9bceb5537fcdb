/-! ===== class and reference: later, undo, texts ===== -/
theorem ZR_c {v v' w w' : mV} {N st B : Nat} (hZ : ZR v w N st B) (hv : ∀ q, (q < 47 ∨ (93 ≤ q ∧ q < 325)) → v' q = v q) (hs : v' 325 2 = v 325 2) (hs1 : v' 326 = v 326) (h1 : ∀ q, q < 229 → w' 1 q = w 1 q) (h04 : w' 0 4 = w 0 4) (h06 : w' 0 6 = w 0 6) (h4 : w' 4 = w 4) (h5 : w' 5 = w 5) : ZR v' w' N st B := by
  obtain ⟨⟨hR, hV, hC⟩, ⟨hT, h6⟩, ⟨e1, e4, s4⟩, hin, hst⟩ := hZ
  obtain ⟨i1, i2, i3, i4, i5, i6⟩ := hC
  have hP' : ∀ j, hP v' j = hP v j := fun j => by unfold hP; rw [hv 94 (by omega)]
  refine ⟨⟨Rep_c hR (fun c hc => hv _ (by omega)) h1, INV_c hV h1, SQ_of (hv 2 (by omega)) i1, hyPi_of (hv 94 (by omega)) i2, hB_of i3 (fun i hi => hv _ (by omega)), fun m hm => hB_of (i4 m hm) (fun i hi => hv _ (by omega)), chOK_of hs1 i5, ?_⟩, ⟨?_, h06.trans h6⟩, ⟨by rw [hv 93 (by omega)]; exact e1, h04.trans e4, s4⟩, fun i j hi hj h => hin i j hi hj (by rw [hP', hP'] at h; exact h), fun j hj => ?_⟩
  · rw [hs]; exact i6
  · rw [h5]
    exact ⟨hT.1, hs.trans hT.2.1, fun j hj => by rw [hs1]; exact hT.2.2 j hj⟩
  · have hp5 := i2 j (by omega)
    have hp5' : hP v j < 5 := hp5
    rw [hP']
    have hz : ∀ q, q < 229 → pst w' j q = pst w j q := fun q _ => by unfold pst; rw [h4]
    exact ⟨Rep_c (hst j hj).1 (fun c hc => hv _ (by omega)) hz, INV_c (hst j hj).2 hz⟩
theorem i32_cancel (a b : Int32) : a + (b - a) = b := by rw [Int32.add_comm, Int32.sub_add_cancel]
theorem rep_fols {h i : Nat} (hi : i < 8) : ∀ (r T U : Nat) (v : mV) (σ : Nat → Int32) (d : Int32), Rep v h σ d → MI σ → IQ σ T → σ (101 + 16 * i) = 1 → σ 2 = nI T → T + r < 31000 → (∃ l, l ≤ T ∧ σ (101 + 16 * i + 3) = nI l) → IU σ U → ∃ d', Rep (hsFols h i r v) h (mLt r i σ) d' ∧ mLt r i σ (101 + 16 * i) = 1 ∧ MI (mLt r i σ)
  | 0, T, U, v, σ, d, hR, hI, hQ, ho, h2, hT, hL, hU => ⟨d, hR, ho, hI⟩
  | r + 1, T, U, v, σ, d, hR, hI, hQ, ho, h2, hT, hL, hU => by
    obtain ⟨m1, m2, m3, m4, m5⟩ := mLt_step hI h2 (by omega) hi hL
    have hR1 := rep_tick (d1 := 1 + (mAll (upd σ 2 (σ 2 + 1)) - v (h + 37) 7 - 1)) hR (by rw [i32_cancel, i32_cancel])
    have ho1 : upd σ 2 (σ 2 + 1) (101 + 16 * i) = 1 := by rw [upd_o (by omega)]; exact ho
    have hQ1 : IQ (upd σ 2 (σ 2 + 1)) (T + 1) := fun k hk hok => IX_T (IX_c (hQ k hk (by rw [upd_o (by omega)] at hok; exact hok)) (fun d hd => upd_o (by omega))) (by omega)
    have e2 : upd σ 2 (σ 2 + 1) 2 = nI (T + 1) := by rw [upd_r, h2, nI_1]
    have hU1 : IU (upd σ 2 (σ 2 + 1)) U := by
      obtain ⟨u, u1, u2⟩ := hU
      exact ⟨u, u1, by rw [upd_o (by omega)]; exact u2⟩
    have hrg : rsRegionAt (u2 v h 3 (v h 3 + 1)) h (v h 3 + 1) = mRegion (upd σ 2 (σ 2 + 1)) (upd σ 2 (σ 2 + 1) 2) := by
      rw [rep_region hR1 m1, upd_r, hR.1.2.1.1]
    have hA := rep_minOf hR1 m1 (IQ_IO hQ1) hi ho1 m2
    obtain ⟨k1, kx, ku⟩ := mMinOf_K (U := U) m1 hi e2 m2 (hQ1 i hi ho1) hU1 ho1
    have hf : hsFol1 v h i = hsAgeP (u2 v h 3 (v h 3 + 1)) h i (mRegion (upd σ 2 (σ 2 + 1)) (upd σ 2 (σ 2 + 1) 2)) := by
      rw [← hrg]; rfl
    rw [hsFols, mLt, hf]
    exact rep_fols hi r (T + 1) (U + 1) _ _ _ hA m3 (fun k hk hok => by
      by_cases hki : k = i
      · subst hki; exact kx
      · exact IX_c (hQ1 k hk (by rw [← k1.2.1 _ (by omega) (by omega)]; exact hok)) (fun d hd => k1.2.1 _ (by omega) (by omega))) (k1.2.2.1.trans ho1) m4 (by omega) m5 ku
theorem hsFols_out {h i q : Nat} (hi : i < 8) (hq : q < h ∨ h + 46 ≤ q) : ∀ (r : Nat) (v : mV), hsFols h i r v q = v q
  | 0, _ => rfl
  | r + 1, v => by
    rw [hsFols, hsFols_out hi hq r]
    unfold hsFol1
    split
    · rw [hsAge_out hi hq, u2_o (by omega)]
    · rw [hsPage_out hi hq, hsAge_out hi hq, u2_o (by omega)]
theorem q_later {v w : mV} {N st B : Nat} (hZ : ZR v w N st B) (x y z : Int32) : (zLater v x y z).1 = (mLater w (w 1) x y z).1 ∧ ZR (zLater v x y z).2 (mLater w (w 1) x y z).2 N st B := by
  have hZ0 := hZ
  obtain ⟨⟨hR, hV, hC⟩, -⟩ := hZ0
  obtain ⟨T, P, hN, -⟩ := hV
  have hI := hN.1.2.1.1
  have hs0 : ZR v (sv w (w 1)) N st B := by rw [sv_id]; exact hZ
  unfold zLater mLater
  rw [rep_open hR hN.1.2.2.1]
  by_cases h1 : mInc (w 1) x = 0
  · rw [if_pos h1, if_pos h1]; exact ⟨rfl, hs0⟩
  · rw [if_neg h1, if_neg h1]
    by_cases h2 : y < 1
    · rw [if_pos h2, if_pos (by unfold mIn; rw [if_pos h2])]; exact ⟨rfl, hs0⟩
    · rw [if_neg h2]
      by_cases h3 : 600 < y
      · rw [if_pos h3, if_pos (by unfold mIn; rw [if_neg h2, if_pos h3])]; exact ⟨rfl, hs0⟩
      · have hy : ¬ mIn y 1 600 = 0 := by unfold mIn; rw [if_neg h2, if_neg h3]; decide
        rw [if_neg h3, if_neg hy]
        by_cases h4 : z < 0
        · rw [if_pos h4, if_pos (by unfold mIn; rw [if_pos h4])]; exact ⟨rfl, hs0⟩
        · rw [if_neg h4]
          by_cases h5 : 2 < z
          · rw [if_pos h5, if_pos (by unfold mIn; rw [if_neg h4, if_pos h5])]; exact ⟨rfl, hs0⟩
          · have hz : ¬ mIn z 0 2 = 0 := by unfold mIn; rw [if_neg h4, if_neg h5]; decide
            rw [if_neg h5, if_neg hz]
            obtain ⟨i, hi, rfl⟩ := mInc_of h1
            obtain ⟨M, hM, rfl⟩ := mIn_600 hy
            have ho : w 1 (101 + 16 * i) = 1 := Classical.byContradiction (fun z => h1 ((mInc_nI0 hi).mpr z))
            unfold zLate
            rw [nI_clamp (show i < 2 ^ 31 by omega), nI_clamp (show M < 2 ^ 31 by omega)]
            have hR47 : Rep (cpB v 47 1 0 46) 47 (w 1) 0 := Rep_c hR (fun c hc => cpB_in (by omega) (by omega)) (fun _ _ => rfl)
            have hT3 := hN.1.1
            obtain ⟨d', g1, g2, g3⟩ := rep_fols hi M T (8 * T) _ _ _ hR47 hI hN.1.2.2.2 ho hN.1.2.1.2.1 (by omega) (hN.1.2.1.2.2 i hi) hN.2.2.2.1
            obtain ⟨x0, x1⟩ := g1.2.2.2.2.2 i hi
            obtain ⟨⟨f1, f2, f3, f4, f5, f6, f7⟩, k1, k2, k3, k4, k5, k6⟩ := x1 g2
            obtain ⟨wo, hwo, ewo⟩ := g3.2.2.2.2.2.2.2 i hi
            refine ⟨?_, ?_⟩
            · show (if z = 1 then _ else if z = 2 then _ else _) = mLvA (mLt M i (w 1)) i z
              unfold mLvA
              rw [f3, f4, k4]
              by_cases z0 : z = 0
              · subst z0
                rw [if_neg (by decide), if_neg (by decide), if_pos rfl]
                unfold zFound
                by_cases hw0 : wo = 0
                · subst hw0
                  rw [if_pos (by rw [ewo]; decide), if_pos (by rw [ewo]; decide)]
                · rw [if_neg (show ¬ mLt M i (w 1) (101 + 16 * i + 4) - 1 = -1 by rw [ewo, show wo = wo - 1 + 1 by omega, nI_pred]; exact not_m1 rfl (by omega)), if_neg (show ¬ mLt M i (w 1) (101 + 16 * i + 4) = 0 by rw [ewo]; exact fun z => hw0 ((na_eq rfl kn_0 (by omega) (by omega)).mp z))]
              · rw [if_neg z0]
                by_cases z1 : z = 1
                · rw [if_pos z1, if_pos z1]
                · rw [if_neg z1, if_neg z1]
                  obtain ⟨k, hk, rfl⟩ := mIn_le (n := 2) (by decide +kernel) hz
                  have : k = 2 := by
                    have n0 : k ≠ 0 := fun e => z0 (by rw [e]; exact kn_0.symm)
                    have n1 : k ≠ 1 := fun e => z1 (by rw [e]; exact kn_1.symm)
                    omega
                  subst this
                  rw [if_pos kn_2.symm]
            · show ZR (hsFols 47 i M (cpB v 47 1 0 46)) (sv (cpR w 3 (mAsd w (w 1) 229)) (mLr (mLt M i (w 1)) (w 1) 229)) N st B
              have hh : ∀ q, (q < 47 ∨ 93 ≤ q) → hsFols 47 i M (cpB v 47 1 0 46) q = v q := fun q hq => by rw [hsFols_out hi (by omega), cpB_out (by omega)]
              refine ZR_c hZ (fun q hq => hh q (by omega)) (by rw [hh 325 (by omega)]) (hh 326 (by omega)) (fun q hq => ?_) ?_ ?_ ?_ ?_
              · rw [sv_1]; unfold mLr; rw [if_pos hq]
              · rw [sv_o (by omega), cpR_o (by omega)]
              · rw [sv_o (by omega), cpR_o (by omega)]
              · rw [sv_o (by omega), cpR_o (by omega)]
              · rw [sv_o (by omega), cpR_o (by omega)]
theorem q_undo {v w : mV} {N st B : Nat} (hZ : ZR v w N st B) : (zUndo v).1 = (mUndo w (w 1) st).1 ∧ ∃ st', ZR (zUndo v).2 (mUndo w (w 1) st).2 N st' B := by
  have hZ0 := hZ
  obtain ⟨⟨hR, hV, hC⟩, ⟨hT, h6⟩, ⟨e1, e4, s4⟩, hin, hst⟩ := hZ0
  obtain ⟨i1, i2, i3, i4, i5, i6⟩ := hC
  unfold zUndo mUndo
  by_cases h0 : st = 0
  · subst h0
    rw [if_neg (by rw [e1]; decide), if_pos rfl]
    exact ⟨rfl, 0, by rw [sv_id]; exact hZ⟩
  · obtain ⟨s, rfl⟩ : ∃ s, st = s + 1 := ⟨st - 1, by omega⟩
    have hpos : 0 < v 93 1 := by rw [e1]; exact (na_lt kn_0 rfl (by omega) (by omega)).mpr (by omega)
    have hres : hyRest v 93 1 = cpB (u2 v 93 1 (nI s)) 1 (93 + (2 + 46 * hP v s)) 0 46 := by
      unfold hyRest
      rw [if_pos hpos, e1, if_neg (by rw [na_lt kn_5 rfl (by omega) (by omega)]; omega), nI_pred, nI_clamp (show s < 2 ^ 31 by omega)]
      rfl
    have hps : hP v s < 5 := i2 s (by omega)
    rw [if_pos hpos, if_neg (by omega), Nat.add_sub_cancel, hres]
    have hlo : ∀ q, (q < 1 ∨ 47 ≤ q) → q ≠ 93 → cpB (u2 v 93 1 (nI s)) 1 (93 + (2 + 46 * hP v s)) 0 46 q = v q := fun q hq h9 => by rw [cpB_out (by omega), u2_o h9]
    have h93 : cpB (u2 v 93 1 (nI s)) 1 (93 + (2 + 46 * hP v s)) 0 46 93 1 = nI s := by rw [cpB_out (by omega), u2_r, upd_r]
    have hhi : ∀ c, c < 46 → cpB (u2 v 93 1 (nI s)) 1 (93 + (2 + 46 * hP v s)) 0 46 (1 + c) = v (93 + (2 + 46 * hP v s) + c) := fun c hc => by rw [cpB_in (by omega) (by omega), u2_o (by omega)]
    have h1 : ∀ q, q < 229 → sv (u2 w 0 4 (nI s)) (fU w (w 1) s 229) 1 q = pst w s q := fun q hq => by rw [sv_1]; unfold fU; rw [if_pos hq]; rfl
    generalize cpB (u2 v 93 1 (nI s)) 1 (93 + (2 + 46 * hP v s)) 0 46 = V at hlo h93 hhi
    have w0 : ∀ f, f ≠ 4 → sv (u2 w 0 4 (nI s)) (fU w (w 1) s 229) 0 f = w 0 f := fun f hf => by rw [sv_o (by omega), u2_r, upd_o hf]
    have w04 : sv (u2 w 0 4 (nI s)) (fU w (w 1) s 229) 0 4 = nI s := by rw [sv_o (by omega), u2_r, upd_r]
    have w4 : sv (u2 w 0 4 (nI s)) (fU w (w 1) s 229) 4 = w 4 := by rw [sv_o (by omega), u2_o (by omega)]
    have w5 : sv (u2 w 0 4 (nI s)) (fU w (w 1) s 229) 5 = w 5 := by rw [sv_o (by omega), u2_o (by omega)]
    generalize sv (u2 w 0 4 (nI s)) (fU w (w 1) s 229) = W at h1 w0 w04 w4 w5
    dsimp only
    have hPV : ∀ j, hP V j = hP v j := fun j => by unfold hP; rw [hlo 94 (by omega) (by omega)]
    refine ⟨h93, s, ⟨Rep_c (hst s (by omega)).1 hhi h1, INV_c (hst s (by omega)).2 h1, ?_⟩, ⟨?_, by rw [w0 6 (by omega)]; exact h6⟩, ⟨h93, w04, by omega⟩, fun i j hi hj h => hin i j hi hj (by rw [hPV, hPV] at h; exact h), fun j hj => ?_⟩
    · refine ⟨Rep_SQ (Rep_c (hst s (by omega)).1 hhi (fun _ _ => rfl)) (hst s (by omega)).2.MI, hyPi_of (hlo 94 (by omega) (by omega)) i2, fun i hi => ?_, fun m hm => hB_of (i4 m hm) (fun i hi => hlo _ (by omega) (by omega)), chOK_of (hlo 326 (by omega) (by omega)) i5, ?_⟩
      · rw [hhi (38 + i) (by omega)]; exact i4 _ hps i hi
      · rw [hlo 325 (by omega) (by omega)]; exact i6
    · rw [w5]
      exact ⟨hT.1, by rw [hlo 325 (by omega) (by omega)]; exact hT.2.1, fun j hj => by rw [hlo 326 (by omega) (by omega)]; exact hT.2.2 j hj⟩
    · rw [hPV]
      have hpj : hP v j < 5 := i2 j (by omega)
      have hz : ∀ q, q < 229 → pst W j q = pst w j q := fun q _ => by unfold pst; rw [w4]
      exact ⟨Rep_c (hst j (by omega)).1 (fun c hc => hlo _ (by omega) (by omega)) hz, INV_c (hst j (by omega)).2 hz⟩
theorem q_type {v w : mV} {N st B : Nat} (hZ : ZR v w N st B) (x : Int32) : (zType v x).1 = (mType w N x).1 ∧ ∃ N', ZR (zType v x).2 (mType w N x).2 N' st B := by
  have hZ0 := hZ
  obtain ⟨⟨hR, hV, hC⟩, ⟨hT, h6⟩, ⟨e1, e4, s4⟩, hin, hst⟩ := hZ0
  obtain ⟨i1, i2, i3, i4, i5, i6⟩ := hC
  unfold zType mType
  by_cases h1 : x < 32
  · rw [if_pos h1, if_pos (by unfold mIn; rw [if_pos h1])]; exact ⟨rfl, N, hZ⟩
  · rw [if_neg h1]
    by_cases h2 : 126 < x
    · rw [if_pos h2, if_pos (by unfold mIn; rw [if_neg h1, if_pos h2])]; exact ⟨rfl, N, hZ⟩
    · rw [if_neg h2, if_neg (show ¬ mIn x 32 126 = 0 by unfold mIn; rw [if_neg h1, if_neg h2]; decide), hT.2.1, if_neg (nI_nneg (show N < 2147483648 by have := hT.1; omega)), if_neg (nI_nneg (show N < 2147483648 by have := hT.1; omega))]
      by_cases h8 : N = 80
      · subst h8
        rw [if_neg (by decide +kernel), if_neg (by decide +kernel), if_pos rfl]; exact ⟨rfl, 80, hZ⟩
      · have h80 := hT.1
        rw [if_pos ((na_lt rfl kn_80 (by omega) (by omega)).mpr (by omega)), if_pos ((na_lt rfl kn_80 (by omega) (by omega)).mpr (by omega)), if_neg h8, nI_1, nI_clamp (show N < 2 ^ 31 by omega)]
        obtain ⟨c, hc, rfl⟩ := nI_of2 (x := x) (n := 126) (M := 126) (by decide +kernel) (fun q => h1 (Int32.lt_trans q (by decide))) (Int32.not_lt.mp h2)
        have hch : ∀ j : Nat, j < 127 → narrow .char (.int (nI j)) = .int (nI j) := by decide +kernel
        dsimp only
        have v0 : ∀ q, q ≠ 325 → q ≠ 326 → u2 (u2 v (325 + 1) N (nI c)) 325 2 (nI (N + 1)) q = v q := fun q h5 h6 => by rw [u2_o h5, u2_o h6]
        have v5 : u2 (u2 v (325 + 1) N (nI c)) 325 2 (nI (N + 1)) 325 2 = nI (N + 1) := by rw [u2_r, upd_r]
        have v6 : u2 (u2 v (325 + 1) N (nI c)) 325 2 (nI (N + 1)) 326 = upd (v 326) N (nI c) := by rw [u2_o (by omega), u2_r]
        generalize u2 (u2 v (325 + 1) N (nI c)) 325 2 (nI (N + 1)) = V at v0 v5 v6
        have hPV : ∀ j, hP V j = hP v j := fun j => by unfold hP; rw [v0 94 (by omega) (by omega)]
        refine ⟨rfl, N + 1, ⟨?_, ?_, ?_⟩, ⟨⟨by omega, v5, fun j hj => ?_⟩, by rw [u2_r, upd_r]⟩, ⟨by rw [v0 93 (by omega) (by omega)]; exact e1, by rw [u2_r, upd_o (by omega), u2_o (by omega)]; exact e4, s4⟩, fun i j hi hj h => hin i j hi hj (by rw [hPV, hPV] at h; exact h), fun j hj => ?_⟩
        · rw [u2_o (by omega), u2_o (by omega)]; exact Rep_c hR (fun c hc => v0 _ (by omega) (by omega)) (fun _ _ => rfl)
        · rw [u2_o (by omega), u2_o (by omega)]; exact hV
        · refine ⟨SQ_of (v0 2 (by omega) (by omega)) i1, hyPi_of (v0 94 (by omega) (by omega)) i2, hB_of i3 (fun i hi => v0 _ (by omega) (by omega)), fun m hm => hB_of (i4 m hm) (fun i hi => v0 _ (by omega) (by omega)), fun j hj => ?_, N + 1, by omega, v5⟩
          show narrow .char (.int (V 326 j)) = .int (V 326 j)
          rw [v6]
          by_cases hjN : j = N
          · subst hjN; rw [upd_r]; exact hch c (by omega)
          · rw [upd_o hjN]; exact i5 j hj
        · show V 326 j = _
          rw [v6, u2_o (by omega), u2_r]
          by_cases hjN : j = N
          · subst hjN; rw [upd_r, upd_r]
          · rw [upd_o hjN, upd_o hjN]; exact hT.2.2 j (by omega)
        · have hpj : hP v j < 5 := i2 j (by omega)
          rw [hPV]
          have hz : ∀ q, q < 229 → pst (u2 (u2 w 5 N (nI c)) 0 6 (nI (N + 1))) j q = pst w j q := fun q _ => by unfold pst; rw [u2_o (by omega), u2_o (by omega)]
          exact ⟨Rep_c (hst j hj).1 (fun c hc => v0 _ (by omega) (by omega)) hz, INV_c (hst j hj).2 hz⟩
theorem q_clear {v w : mV} {N st B : Nat} (hZ : ZR v w N st B) : v 325 2 = w 0 6 ∧ ZR (u2 v 325 2 0) (u2 w 0 6 0) 0 st B := by
  obtain ⟨⟨hR, hV, hC⟩, ⟨hT, h6⟩, ⟨e1, e4, s4⟩, hin, hst⟩ := hZ
  obtain ⟨i1, i2, i3, i4, i5, i6⟩ := hC
  have v0 : ∀ q, q ≠ 325 → u2 v 325 2 0 q = v q := fun q h => u2_o h
  have hPV : ∀ j, hP (u2 v 325 2 0) j = hP v j := fun j => by unfold hP; rw [v0 94 (by omega)]
  refine ⟨hT.2.1.trans h6.symm, ⟨?_, ?_, ?_⟩, ⟨⟨by omega, by rw [u2_r, upd_r]; exact kn_0, fun j hj => absurd hj (by omega)⟩, by rw [u2_r, upd_r]; exact kn_0⟩, ⟨by rw [v0 93 (by omega)]; exact e1, by rw [u2_r, upd_o (by omega)]; exact e4, s4⟩, fun i j hi hj h => hin i j hi hj (by rw [hPV, hPV] at h; exact h), fun j hj => ?_⟩
  · rw [u2_o (by omega)]; exact Rep_c hR (fun c hc => v0 _ (by omega)) (fun _ _ => rfl)
  · rw [u2_o (by omega)]; exact hV
  · exact ⟨SQ_of (v0 2 (by omega)) i1, hyPi_of (v0 94 (by omega)) i2, hB_of i3 (fun i hi => v0 _ (by omega)), fun m hm => hB_of (i4 m hm) (fun i hi => v0 _ (by omega)), chOK_of (v0 326 (by omega)) i5, 0, by omega, by rw [u2_r, upd_r]; exact kn_0⟩
  · have hpj : hP v j < 5 := i2 j (by omega)
    rw [hPV]
    have hz : ∀ q, q < 229 → pst (u2 w 0 6 0) j q = pst w j q := fun q _ => by unfold pst; rw [u2_o (by omega)]
    exact ⟨Rep_c (hst j hj).1 (fun c hc => v0 _ (by omega)) hz, INV_c (hst j hj).2 hz⟩
