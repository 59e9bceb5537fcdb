/-! ===== class and reference: the object between two calls ===== -/
def hP (v : mV) (j : Nat) : Nat := (v 94 j).toNatClampNeg
def hInj (v : mV) : Prop := ∀ i j, i < 5 → j < 5 → hP v i = hP v j → i = j
def pst (w : mV) (j : Nat) : Nat → Int32 := fun q => w 4 (229 * j + q)
def ZH (v w : mV) (st B : Nat) : Prop := (v 93 1 = nI st ∧ w 0 4 = nI st ∧ st ≤ 4) ∧ hInj v ∧ ∀ j, j < st → Rep v (93 + (2 + 46 * hP v j)) (pst w j) 0 ∧ INV (pst w j) B
def ZR (v w : mV) (N st B : Nat) : Prop := (Rep v 1 (w 1) 0 ∧ INV (w 1) B ∧ CI v) ∧ (TX v 325 (w 5) N ∧ w 0 6 = nI N) ∧ ZH v w st B
theorem Rep_SQ {v : mV} {h : Nat} {σ : Nat → Int32} {d : Int32} (hR : Rep v h σ d) (hI : MI σ) : SQ v h := by
  obtain ⟨O, hO, eO⟩ := hI.2.2.2.1
  exact ⟨O, hO, hR.1.1.2.2.trans eO⟩
theorem hyRot_row {k j : Nat} : ∀ (r i : Nat) (v : mV), i + r = 4 → hyRot k r i v (k + 1) j = if i ≤ j ∧ j < 4 then v (k + 1) (j + 1) else if j = 4 then v (k + 1) i else v (k + 1) j
  | 0, i, v, hi => by
    rw [if_neg (by omega)]
    by_cases hj : j = 4
    · rw [if_pos hj, show i = j by omega]; rfl
    · rw [if_neg hj]; rfl
  | r + 1, i, v, hi => by
    rw [hyRot, hyRot_row r (i + 1) _ (by omega)]
    simp only [u2_r]
    by_cases h1 : i + 1 ≤ j ∧ j < 4
    · rw [if_pos h1, if_pos (by omega), upd_o (by omega), upd_o (by omega)]
    · rw [if_neg h1]
      by_cases h4 : j = 4
      · rw [if_pos h4, if_neg (by omega), if_pos h4, upd_r]
      · rw [if_neg h4]
        by_cases hji : j = i
        · subst hji
          rw [upd_o (by omega), upd_r, if_pos (by omega)]
        · rw [if_neg (by omega), if_neg h4]
          by_cases h5 : j = i + 1
          · omega
          · rw [upd_o h5, upd_o hji]
theorem hyRot_o {k q : Nat} (hq : q ≠ k + 1) : ∀ (r i : Nat) (v : mV), hyRot k r i v q = v q
  | 0, _, _ => rfl
  | r + 1, i, v => by rw [hyRot, hyRot_o hq r, u2_o hq, u2_o hq]
theorem fB_at {w : mV} {s1 q : Nat} (hq : q < 229) : fB w s1 229 (229 * s1 + q) = w 2 q := by
  unfold fB
  rw [if_pos (by omega), Nat.add_sub_cancel_left]
theorem fB_off {w : mV} {s1 q : Nat} (hq : q < 229 * s1 ∨ 229 * s1 + 229 ≤ q) : fB w s1 229 q = w 4 q := by
  unfold fB
  rw [if_neg (by omega)]
theorem mBeg_at {v : mV} {σ : Nat → Int32} {q : Nat} (hq : q < 229) : mBeg v σ 229 q = σ q := by
  unfold mBeg
  rw [if_pos hq]
theorem INV_c {σ τ : Nat → Int32} {B : Nat} (h : INV σ B) (hs : ∀ q, q < 229 → τ q = σ q) : INV τ B := by
  obtain ⟨T, P, hN, hW, hF⟩ := h
  obtain ⟨⟨hT3, ⟨hI, h2, hL⟩, hBB, hQ⟩, hE, ⟨a, w, k1, k2, k3, k4⟩, ⟨u, u1, u2⟩, ⟨o, o1, o2⟩, hD⟩ := hN
  obtain ⟨⟨P', p1, p2⟩, ⟨R, r1, r2, r3⟩, ⟨T0, t1, t2, t3⟩, ⟨O, q1, q2⟩, i1, i2, i3, i4⟩ := hI
  refine ⟨T, P, ⟨⟨hT3, ⟨⟨⟨P', p1, by rw [hs 0 (by omega)]; exact p2⟩, ⟨R, r1, by rw [hs 1 (by omega)]; exact r2, fun k hk => by rw [hs _ (by omega)]; exact r3 k hk⟩, ⟨T0, t1, by rw [hs 2 (by omega)]; exact t2, fun i hi => by rw [hs _ (by omega)]; exact t3 i hi⟩, ⟨O, q1, by rw [hs 15 (by omega)]; exact q2⟩, fun k hk => by rw [hs _ (by omega)]; exact i1 k hk, fun k j hk hj => by rw [hs _ (by omega)]; exact i2 k j hk hj, fun k hk => by rw [hs _ (by omega)]; exact i3 k hk, fun i hi => by rw [hs _ (by omega)]; exact i4 i hi⟩, by rw [hs 2 (by omega)]; exact h2, fun i hi => by rw [hs _ (by omega)]; exact hL i hi⟩, fun i hi => by rw [hs _ (by omega)]; exact hBB i hi, fun i hi ho => IX_c (hQ i hi (by rw [← hs _ (by omega)]; exact ho)) (fun d hd => hs _ (by omega))⟩, fun k hk => by rw [hs _ (by omega)]; exact hE k hk, ⟨a, w, by rw [hs 12 (by omega)]; exact k1, k2, by rw [hs 11 (by omega)]; exact k3, k4⟩, ⟨u, u1, by rw [hs 9 (by omega)]; exact u2⟩, ⟨o, o1, by rw [mAll_c (hs 10 (by omega)) (hs 2 (by omega)) (fun i hi => ⟨hs _ (by omega), fun _ => hs _ (by omega)⟩)]; exact o2⟩, fun k hk m hm em x y hx hy hxy => ?_⟩, ?_, IF_c hF (fun i hi ho => Or.inl ⟨by rw [← hs _ (by omega)]; exact ho, hs _ (by omega), hs _ (by omega)⟩)⟩
  · rw [hs _ (by omega), hs _ (by omega)] at hxy
    rw [hs _ (by omega)] at em
    exact hD k hk m hm em x y hx hy hxy
  · exact IW_c hW (hs 0 (by omega)) (hs 15 (by omega)) (fun k d hk h1 h2 => hs _ (by omega)) (fun k hk => hs _ (by omega)) (fun i hi ho => Or.inl ⟨by rw [← hs _ (by omega)]; exact ho, hs _ (by omega)⟩)
/-- what a change leaves of the memory -/
def zOut (a : mV) (v : mV) : Prop := ∀ q, (q < 1 ∨ 47 ≤ q) → a q = v q
theorem zPrep_eq {v : mV} {st : Nat} (h1 : v 93 1 = nI st) (h4 : st ≤ 4) : zPrep v = cpB v (93 + (2 + 46 * hP v st)) 1 0 46 := by
  unfold zPrep hyPrep
  rw [h1, if_neg (nI_nneg (by omega)), if_pos ((na_lt rfl kn_5 (by omega) (by omega)).mpr (by omega)), nI_clamp (show st < 2 ^ 31 by omega)]
  rfl
theorem zPrep_lo {v : mV} {st q : Nat} (h1 : v 93 1 = nI st) (h4 : st ≤ 4) (hq : q < 95 ∨ 325 ≤ q) (hπ : hyPi v 93) : zPrep v q = v q := hyPrep_out hπ (by omega)
theorem Rep_prep {v : mV} {σ : Nat → Int32} {st : Nat} (hR : Rep v 1 σ 0) (h1 : v 93 1 = nI st) (h4 : st ≤ 4) (hπ : hyPi v 93) : Rep (zPrep v) 1 σ 0 := Rep_c hR (fun c hc => zPrep_lo h1 h4 (by omega) hπ) (fun _ _ => rfl)
/-- a change of the house, kept in the history or not -/
theorem zr_set {v w : mV} {N st B B' : Nat} (hZ : ZR v w N st B) {a : Int32 × mV} {b : Int32 × (Nat → Int32)} (hk : OKW a b 1 B') (hB' : B ≤ B') (ho : zOut a.2 (zPrep v)) (hb : hB a.2 1) : (zSet a).1 = (mDone w (w 1) st b).1 ∧ ∃ st', ZR (zSet a).2 (mDone w (w 1) st b).2 N st' B' := by
  obtain ⟨⟨hR, hV, hC⟩, ⟨hT, h6⟩, ⟨e1, e4, s4⟩, hin, hst⟩ := hZ
  have hπ := hC.2.1
  have hps : hP v st < 5 := hπ st (by omega)
  have lo : ∀ q, (47 ≤ q ∧ q < 95) ∨ 325 ≤ q → a.2 q = v q := fun q hq => (ho q (by omega)).trans (zPrep_lo e1 s4 (by omega) hπ)
  have a94 : a.2 94 = v 94 := lo 94 (by omega)
  have a93 : a.2 93 = v 93 := lo 93 (by omega)
  have slot : ∀ c, c < 46 → a.2 (93 + (2 + 46 * hP v st) + c) = v (1 + c) := fun c hc => by
    rw [ho _ (by omega), zPrep_eq e1 s4, cpB_in (by omega) (by omega)]
  have other : ∀ m c, m < 5 → m ≠ hP v st → c < 46 → a.2 (93 + (2 + 46 * m) + c) = v (93 + (2 + 46 * m) + c) := fun m c hm hne hc => by
    rw [ho _ (by omega), zPrep_eq e1 s4, cpB_out (by omega)]
  have hTa : TX a.2 325 (w 5) N := ⟨hT.1, by rw [lo 325 (by omega)]; exact hT.2.1, fun j hj => by rw [lo _ (by omega)]; exact hT.2.2 j hj⟩
  have hRs : Rep a.2 (93 + (2 + 46 * hP v st)) (w 1) 0 := Rep_c hR (fun c hc => slot c hc) (fun _ _ => rfl)
  have hRo : ∀ j, j < st → Rep a.2 (93 + (2 + 46 * hP v j)) (pst w j) 0 := fun j hj => Rep_c (hst j hj).1 (fun c hc => other _ c (hπ j (by omega)) (fun z => by have := hin j st (by omega) (by omega) z; omega) hc) (fun _ _ => rfl)
  have hBs : ∀ m, m < 5 → hB a.2 (93 + (2 + 46 * m)) := fun m hm => by
    by_cases hne : m = hP v st
    · subst hne
      exact fun i hi => by rw [slot _ (by omega)]; exact hC.2.2.1 i hi
    · exact fun i hi => by rw [other m _ hm hne (by omega)]; exact hC.2.2.2.1 m hm i hi
  have hCa : CI a.2 := by
    obtain ⟨T, P, hN, -⟩ := hk.2.2
    refine ⟨Rep_SQ hk.2.1 hN.1.2.1.1, hyPi_of a94 hπ, hb, hBs, fun j hj => ?_, ?_⟩
    · rw [lo _ (by omega)]; exact hC.2.2.2.2.1 j hj
    · rw [lo 325 (by omega)]; exact hC.2.2.2.2.2
  have hia : hInj a.2 := fun i j hi hj h => hin i j hi hj (by unfold hP at h; rw [a94] at h; exact h)
  have hPa : ∀ j, hP a.2 j = hP v j := fun j => by unfold hP; rw [a94]
  have b4 : (sv (mBegin w (w 1)) b.2) 4 = w 4 := by rw [sv_o (by omega), mBegin, cpR_o (by omega)]
  have b0 : (sv (mBegin w (w 1)) b.2) 0 = w 0 := by rw [sv_o (by omega), mBegin, cpR_o (by omega)]
  have b5 : (sv (mBegin w (w 1)) b.2) 5 = w 5 := by rw [sv_o (by omega), mBegin, cpR_o (by omega)]
  have b2 : (sv (mBegin w (w 1)) b.2) 2 = mBeg w (w 1) 229 := by rw [sv_o (by omega), mBegin, cpR_r]
  unfold zSet mDone
  rw [← hk.1]
  by_cases hneg : a.1 < 0
  · rw [if_pos hneg, if_pos hneg]
    dsimp only
    refine ⟨rfl, st, ⟨?_, ?_, hCa⟩, ⟨?_, ?_⟩, ⟨?_, ?_, s4⟩, hia, fun j hj => ⟨?_, ?_⟩⟩
    · exact hk.2.1
    · exact hk.2.2
    · show TX a.2 325 ((sv (mBegin w (w 1)) b.2) 5) N
      rw [b5]; exact hTa
    · show (sv (mBegin w (w 1)) b.2) 0 6 = _
      rw [b0]; exact h6
    · rw [a93]; exact e1
    · show (sv (mBegin w (w 1)) b.2) 0 4 = _
      rw [b0]; exact e4
    · rw [hPa]
      exact Rep_c (hRo j hj) (fun _ _ => rfl) (fun q hq => by show (sv (mBegin w (w 1)) b.2) 4 _ = _; rw [b4]; rfl)
    · exact INV_c ((hst j hj).2.B hB') (fun q hq => by show (sv (mBegin w (w 1)) b.2) 4 _ = _; rw [b4]; rfl)
  · rw [if_neg hneg, if_neg hneg]
    generalize hu : sv (mBegin w (w 1)) b.2 = u at b4 b0 b5 b2
    have u1 : u 1 = b.2 := by rw [← hu]; rfl
    by_cases h4 : st = 4
    · subst h4
      have hkp : hyKeep a.2 93 = hyDrop (u2 a.2 93 1 (a.2 93 1 + 1)) 93 := by unfold hyKeep; rw [a93, e1, nI_1, if_pos (by decide +kernel)]
      have hac : mAct u 4 = mAct1 (u2 (cpR u 4 (fA u 687)) 0 4 (nI 3)) 3 := by unfold mAct; rw [if_pos rfl]
      rw [hkp, hac]
      have c_o : ∀ q, q ≠ 93 → q ≠ 94 → hyDrop (u2 a.2 93 1 (a.2 93 1 + 1)) 93 q = a.2 q := fun q h1 h2 => by unfold hyDrop; rw [u2_o h1, hyRot_o h2, u2_o h1]
      have c_94 : ∀ j, hyDrop (u2 a.2 93 1 (a.2 93 1 + 1)) 93 94 j = if j < 4 then v 94 (j + 1) else if j = 4 then v 94 0 else v 94 j := fun j => by
        unfold hyDrop
        rw [u2_o (by omega), show (94 : Nat) = 93 + 1 by rfl, hyRot_row 4 0 _ rfl, u2_o (by omega), show (93 + 1 : Nat) = 94 by rfl, a94]
        simp only [Nat.zero_le, true_and]
      have c_93 : hyDrop (u2 a.2 93 1 (a.2 93 1 + 1)) 93 93 1 = nI 4 := by unfold hyDrop; rw [u2_r, upd_r]; exact kn_4
      have c_P : ∀ j, j < 5 → hP (hyDrop (u2 a.2 93 1 (a.2 93 1 + 1)) 93) j = if j < 4 then hP v (j + 1) else hP v 0 := fun j hj => by
        unfold hP
        rw [c_94]
        by_cases h : j < 4
        · rw [if_pos h, if_pos h]
        · rw [if_neg h, if_neg h, if_pos (by omega)]
      have d4 : ∀ q, mAct1 (u2 (cpR u 4 (fA u 687)) 0 4 (nI 3)) 3 4 q = if 687 ≤ q ∧ q < 916 then w 1 (q - 687) else if q < 687 then w 4 (q + 229) else w 4 q := fun q => by
        unfold mAct1
        rw [u2_o (by omega), cpR_r]
        unfold fB
        by_cases h : 687 ≤ q ∧ q < 916
        · rw [if_pos (by omega), if_pos h, u2_o (by omega), cpR_o (by omega), b2, mBeg_at (by omega)]
        · rw [if_neg (by omega), if_neg h, u2_o (by omega), cpR_r]
          unfold fA
          rw [b4]
      generalize hyDrop (u2 a.2 93 1 (a.2 93 1 + 1)) 93 = V at c_o c_94 c_93 c_P
      have hx : ∀ q, q ≠ 0 → q ≠ 4 → mAct1 (u2 (cpR u 4 (fA u 687)) 0 4 (nI 3)) 3 q = u q := fun q h0 h4 => by unfold mAct1; rw [u2_o h0, cpR_o h4, u2_o h0, cpR_o h4]
      have hx0 : ∀ f, f ≠ 4 → mAct1 (u2 (cpR u 4 (fA u 687)) 0 4 (nI 3)) 3 0 f = w 0 f := fun f hf => by unfold mAct1; rw [u2_r, upd_o hf, cpR_o (by omega), u2_r, upd_o hf, cpR_o (by omega), b0]
      have hx4 : mAct1 (u2 (cpR u 4 (fA u 687)) 0 4 (nI 3)) 3 0 4 = nI 4 := by unfold mAct1; rw [u2_r, upd_r]
      generalize mAct1 (u2 (cpR u 4 (fA u 687)) 0 4 (nI 3)) 3 = D at d4 hx hx0 hx4
      have hV1 : ∀ c, c < 46 → V (1 + c) = a.2 (1 + c) := fun c hc => c_o _ (by omega) (by omega)
      have hVs : ∀ m c, V (93 + (2 + 46 * m) + c) = a.2 (93 + (2 + 46 * m) + c) := fun m c => c_o _ (by omega) (by omega)
      have hD1 : D 1 = b.2 := (hx 1 (by omega) (by omega)).trans u1
      dsimp only
      refine ⟨rfl, 4, ⟨?_, ?_, ?_⟩, ⟨?_, ?_⟩, ⟨c_93, hx4, Nat.le_refl 4⟩, ?_, fun j hj => ?_⟩
      · rw [hD1]; exact Rep_c hk.2.1 hV1 (fun _ _ => rfl)
      · rw [hD1]; exact hk.2.2
      · obtain ⟨i1, i2, i3, i4, i5, i6⟩ := hCa
        refine ⟨SQ_of (c_o 2 (by omega) (by omega)) i1, fun j hj => ?_, hB_of i3 (fun i hi => c_o _ (by omega) (by omega)), fun m hm => hB_of (i4 m hm) (fun i hi => c_o _ (by omega) (by omega)), chOK_of (c_o 326 (by omega) (by omega)) i5, ?_⟩
        · show hP V j < 5
          rw [c_P j hj]
          split
          · exact hπ (j + 1) (by omega)
          · exact hπ 0 (by omega)
        · rw [c_o 325 (by omega) (by omega)]; exact i6
      · rw [show D 5 = w 5 from (hx 5 (by omega) (by omega)).trans b5]
        exact ⟨hTa.1, by rw [c_o 325 (by omega) (by omega)]; exact hTa.2.1, fun j hj => by rw [c_o 326 (by omega) (by omega)]; exact hTa.2.2 j hj⟩
      · rw [hx0 6 (by omega)]; exact h6
      · intro i j hi hj hij
        rw [c_P i hi, c_P j hj] at hij
        by_cases hi4 : i < 4
        · by_cases hj4 : j < 4
          · rw [if_pos hi4, if_pos hj4] at hij
            have := hin (i + 1) (j + 1) (by omega) (by omega) hij
            omega
          · rw [if_pos hi4, if_neg hj4] at hij
            have := hin (i + 1) 0 (by omega) (by omega) hij
            omega
        · by_cases hj4 : j < 4
          · rw [if_neg hi4, if_pos hj4] at hij
            have := hin 0 (j + 1) (by omega) (by omega) hij
            omega
          · omega
      · rw [c_P j (by omega), if_pos hj]
        by_cases hj3 : j = 3
        · subst hj3
          have hz : ∀ q, q < 229 → pst D 3 q = w 1 q := fun q hq => by
            show D 4 (229 * 3 + q) = _
            rw [d4, if_pos (by omega), show 229 * 3 + q - 687 = q by omega]
          exact ⟨Rep_c hRs (fun c hc => hVs _ c) hz, INV_c (hV.B hB') hz⟩
        · have hz : ∀ q, q < 229 → pst D j q = pst w (j + 1) q := fun q hq => by
            show D 4 (229 * j + q) = w 4 (229 * (j + 1) + q)
            rw [d4, if_neg (by omega), if_pos (by omega), show 229 * j + q + 229 = 229 * (j + 1) + q by omega]
          exact ⟨Rep_c (hRo (j + 1) (by omega)) (fun c hc => hVs _ c) hz, INV_c ((hst (j + 1) (by omega)).2.B hB') hz⟩
    · have hkp : hyKeep a.2 93 = u2 a.2 93 1 (nI (st + 1)) := by unfold hyKeep; rw [a93, e1, nI_1, if_neg (by rw [na_lt kn_4 rfl (by omega) (by omega)]; omega)]
      have hac : mAct u st = mAct1 u st := by unfold mAct; rw [if_neg h4]
      rw [hkp, hac]
      have hV0 : ∀ q, q ≠ 93 → u2 a.2 93 1 (nI (st + 1)) q = a.2 q := fun q hq => u2_o hq
      have hD1 : mAct1 u st 1 = b.2 := by unfold mAct1; rw [u2_o (by omega), cpR_o (by omega)]; exact u1
      have hD5 : mAct1 u st 5 = w 5 := by unfold mAct1; rw [u2_o (by omega), cpR_o (by omega)]; exact b5
      have hD0 : ∀ f, f ≠ 4 → mAct1 u st 0 f = w 0 f := fun f hf => by unfold mAct1; rw [u2_r, upd_o hf, cpR_o (by omega), b0]
      have hD04 : mAct1 u st 0 4 = nI (st + 1) := by unfold mAct1; rw [u2_r, upd_r]
      have hD4 : mAct1 u st 4 = fB u st 229 := by unfold mAct1; rw [u2_o (by omega), cpR_r]
      have hPV : ∀ j, hP (u2 a.2 93 1 (nI (st + 1))) j = hP v j := fun j => by unfold hP; rw [hV0 94 (by omega), a94]
      dsimp only
      refine ⟨rfl, st + 1, ⟨?_, ?_, ?_⟩, ⟨?_, ?_⟩, ⟨by rw [u2_r, upd_r], hD04, by omega⟩, ?_, fun j hj => ?_⟩
      · rw [hD1]; exact Rep_c hk.2.1 (fun c hc => hV0 _ (by omega)) (fun _ _ => rfl)
      · rw [hD1]; exact hk.2.2
      · obtain ⟨i1, i2, i3, i4, i5, i6⟩ := hCa
        refine ⟨SQ_of (hV0 2 (by omega)) i1, hyPi_of (hV0 94 (by omega)) i2, hB_of i3 (fun i hi => hV0 _ (by omega)), fun m hm => hB_of (i4 m hm) (fun i hi => hV0 _ (by omega)), chOK_of (hV0 326 (by omega)) i5, ?_⟩
        rw [hV0 325 (by omega)]; exact i6
      · rw [hD5]
        exact ⟨hTa.1, by rw [hV0 325 (by omega)]; exact hTa.2.1, fun j hj => by rw [hV0 326 (by omega)]; exact hTa.2.2 j hj⟩
      · rw [hD0 6 (by omega)]; exact h6
      · intro i j hi hj hij
        rw [hPV, hPV] at hij
        exact hin i j hi hj hij
      · rw [hPV]
        by_cases hjs : j = st
        · subst hjs
          have hz : ∀ q, q < 229 → pst (mAct1 u j) j q = w 1 q := fun q hq => by
            show mAct1 u j 4 (229 * j + q) = _
            rw [hD4, fB_at hq, b2, mBeg_at hq]
          exact ⟨Rep_c hRs (fun c hc => hV0 _ (by omega)) hz, INV_c (hV.B hB') hz⟩
        · have hz : ∀ q, q < 229 → pst (mAct1 u st) j q = pst w j q := fun q hq => by
            show mAct1 u st 4 (229 * j + q) = w 4 (229 * j + q)
            rw [hD4, fB_off (by omega), b4]
          exact ⟨Rep_c (hRo j (by omega)) (fun c hc => hV0 _ (by omega)) hz, INV_c ((hst j (by omega)).2.B hB') hz⟩
