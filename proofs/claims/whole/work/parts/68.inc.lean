/-! ===== class and reference: incidents ===== -/
theorem IN_B {σ : Nat → Int32} {T B B' : Nat} (hN : IN σ T B) (h : B ≤ B') : IN σ T B' := by
  obtain ⟨h1, h2, ⟨a, w, k1, k2, k3, k4⟩, h4⟩ := hN
  exact ⟨h1, h2, ⟨a, w, k1, by omega, k3, k4⟩, h4⟩
theorem OK_B {a : Int32 × mV} {b : Int32 × (Nat → Int32)} {h B B' : Nat} (hk : OK a b h B) (hb : B ≤ B') : OK a b h B' := by
  obtain ⟨h1, h2, T, h3⟩ := hk
  exact ⟨h1, h2, T, IN_B h3 hb⟩
/-- a change in one incident and the totals, on the reference's side -/
theorem IN_i {σ τ : Nat → Int32} {T B B' i : Nat} (hN : IN σ T B) (hM : MT τ T T) (hi : i < 8) (hs : ∀ q, (q ≤ 2 ∨ 13 ≤ q) → (q < 101 + 16 * i ∨ 101 + 16 * i + 16 ≤ q) → (∀ w, w < 8 → q ≠ 16 + 5 * w + 3 ∧ q ≠ 16 + 5 * w + 4) → τ q = σ q) (hb : τ (101 + 16 * i) = 0 ∨ τ (101 + 16 * i) = 1) (hX : τ (101 + 16 * i) = 1 → IX τ T i) (hK : IK τ B') (h9 : τ 9 = σ 9) (hA : mAll τ = mAll σ) : IN τ T B' := by
  obtain ⟨⟨hT3, -, hBB, hQ⟩, hE, -, ⟨u, u1, u2⟩, ⟨o, o1, o2⟩, hD⟩ := hN
  refine ⟨⟨hT3, hM, fun k hk => ?_, fun k hk ho => ?_⟩, fun k hk => ?_, hK, ⟨u, u1, h9.trans u2⟩, ⟨o, o1, hA.trans o2⟩, fun k hk m hm em x y hx hy hxy => ?_⟩
  · by_cases hki : k = i
    · subst hki; exact hb
    · rw [hs _ (by omega) (by omega) (by omega)]; exact hBB k hk
  · by_cases hki : k = i
    · subst hki; exact hX ho
    · exact IX_c (hQ k hk (by rw [← hs (101 + 16 * k) (by omega) (by omega) (by omega)]; exact ho)) (fun d hd => hs _ (by omega) (by omega) (by omega))
  · rw [hs _ (by omega) (by omega) (by omega)]; exact hE k hk
  · rw [hs _ (by omega) (by omega) (by omega), hs _ (by omega) (by omega) (by omega)] at hxy
    rw [hs _ (by omega) (by omega) (by omega)] at em
    exact hD k hk m hm em x y hx hy hxy
theorem rep_ack {v : mV} {h : Nat} {σ : Nat → Int32} {T B : Nat} (hR : Rep v h σ 0) (hN : IN σ T B) (x : Int32) : OK (hsAck v h x) (mAcks σ x) h (B + 1) := by
  have hI := hN.1.2.1.1
  unfold hsAck mAcks
  rw [rep_open hR hN.1.2.2.1]
  by_cases h1 : mInc σ x = 0
  · rw [if_pos h1, if_pos h1]; exact OK_B (OK_id hR hN) (by omega)
  · rw [if_neg h1, if_neg h1]
    obtain ⟨i, hi, rfl⟩ := mInc_of h1
    rw [nI_clamp (show i < 2 ^ 31 by omega)]
    have ho : σ (101 + 16 * i) = 1 := Classical.byContradiction (fun z => h1 ((mInc_nI0 hi).mpr z))
    obtain ⟨x0, x1⟩ := hR.2.2.2.2.2 i hi
    obtain ⟨⟨f1, f2, f3, f4, f5, f6, f7⟩, g1, g2, g3, g4, g5, g6⟩ := x1 ho
    obtain ⟨w, hw, ew⟩ := hI.2.2.2.2.2.2.2 i hi
    obtain ⟨q1, q2, q3⟩ := hN.1.2.2.2 i hi ho
    rw [f4, f7]
    by_cases hw0 : w = 0
    · subst hw0
      rw [if_pos (by rw [ew]; decide), if_pos (by rw [ew]; decide)]; exact OK_B (OK_id hR hN) (by omega)
    · have hpos : 0 < σ (101 + 16 * i + 4) := by rw [ew]; exact (na_lt kn_0 rfl (by omega) (by omega)).mpr (by omega)
      obtain ⟨o1, o2, p, hp, ep⟩ := q3 hpos
      have hne : ¬ σ (101 + 16 * i + 4) - 1 = -1 := by
        rw [ew, show w = w - 1 + 1 by omega, nI_pred]
        exact fun z => nI_nneg (j := w - 1) (by omega) (by rw [z]; decide)
      rw [if_neg hne, if_neg (show ¬ σ (101 + 16 * i + 4) = 0 by rw [ew]; exact fun z => hw0 ((na_eq rfl kn_0 (by omega) (by omega)).mp z))]
      rcases q2 with e5 | e5
      · rw [e5, if_pos rfl, if_neg (show ¬ (0 : Int32) = 1 by decide), f6, o1, if_neg (show ¬ (1 : Int32) = 0 by decide), hR.1.2.1.1]
        obtain ⟨c1, c2, c3, c4, c5, c6, c7, c8, c9⟩ := hR.1.2.2
        refine OK_mk (T := T) rfl ?_ ?_
        · refine Rep_i hR hi (fun c h1 h2 => ?_) (fun q h1 h2 => ?_) ⟨?_, ?_, ?_, ?_, ?_, ?_, ?_, ?_, ?_⟩ ?_ ⟨?_, fun _ => ⟨⟨?_, ?_, ?_, ?_, ?_, ?_, ?_⟩, ?_, ?_, ?_, ?_, ?_, ?_⟩⟩
          case refine_12 =>
            unfold RA
            simp (disch := omega) only [u2_o, u2_r, upd_o, upd_r]
            rw [mAll_c (σ := σ) (by simp (disch := omega) only [upd_o]) (by simp (disch := omega) only [upd_o]) (fun j hj => ⟨by simp (disch := omega) only [upd_o], fun _ => by simp (disch := omega) only [upd_o]⟩)]
            exact hR.2.1
          all_goals simp (disch := omega) only [u2_o, u2_r, upd_o, upd_r]
          all_goals first | assumption | (rw [c8]) | (rw [c9])
        · obtain ⟨a, ww, k1, k2, k3, k4⟩ := hN.2.2.1
          have eT := hN.1.2.1.2.1
          have hT3 := hN.1.1
          have edif : σ 2 - σ (101 + 16 * i + 10) = nI (T - p) := na_sub eT ep hp
          refine IN_i hN (MT_free (MT_free (MT_free hN.1.2.1 (by omega) (by omega)) (by omega) (by omega)) (by omega) (by omega)) hi (fun q h1 h2 h3 => ?_) ?_ (fun _ => ⟨?_, ?_, fun hp2 => ?_⟩) ⟨a + 1, ww + (T - p), ?_, by omega, ?_, ?_⟩ ?_ ?_
          · simp (disch := omega) only [upd_o]
          · right; simp (disch := omega) only [upd_o]; exact ho
          · simp (disch := omega) only [upd_o]; exact q1
          · right; simp (disch := omega) only [upd_o, upd_r]
          · simp (disch := omega) only [upd_o] at hp2 ⊢; exact q3 hp2
          · rw [upd_r, k1, nI_1]
          · rw [upd_o (by omega), upd_r, k3, edif, nI_add]
          · rw [Nat.mul_add]; omega
          · simp (disch := omega) only [upd_o]
          · exact mAll_c (by simp (disch := omega) only [upd_o]) (by simp (disch := omega) only [upd_o]) (fun j hj => ⟨by simp (disch := omega) only [upd_o], fun _ => by simp (disch := omega) only [upd_o]⟩)
      · rw [e5, if_neg (show ¬ (1 : Int32) = 0 by decide), if_pos rfl]
        exact OK_B (OK_id hR hN) (by omega)
/-! the sum of the open times when one incident changes -/
theorem mAll_i {σ τ : Nat → Int32} {i : Nat} (hi : i < 8) (h2 : τ 2 = σ 2) (hs : ∀ k, k < 8 → k ≠ i → τ (101 + 16 * k) = σ (101 + 16 * k) ∧ τ (101 + 16 * k + 7) = σ (101 + 16 * k + 7)) (h10 : ∀ a, τ 10 + a + (mAllN τ i 0) = σ 10 + a + (mAllN σ i 0)) : mAll τ = mAll σ := by
  have hz : ∀ (ρ : Nat → Int32) (k : Nat) (a : Int32), mAllN ρ k a = a + mAllN ρ k 0 := fun ρ k a => by unfold mAllN; rw [Int32.zero_add]
  have hk : ∀ k, k < 8 → k ≠ i → mAllN τ k 0 = mAllN σ k 0 := fun k hk hki => by
    unfold mAllN
    rw [mInc_nI hk, mInc_nI hk, (hs k hk hki).1, (hs k hk hki).2, h2]
  have hsum : ∀ (ρ : Nat → Int32) (r j : Nat) (a : Int32), cntLp (mAllN ρ) r j a = a + cntLp (mAllN ρ) r j 0 := fun ρ r j a => by
    have := mAllN_tr (σ := ρ) r j 0 a
    rw [Int32.zero_add] at this
    rw [this, Int32.add_comm]
  have hlp : ∀ r j, i < j → j + r ≤ 8 → cntLp (mAllN τ) r j 0 = cntLp (mAllN σ) r j 0 := by
    intro r
    induction r with
    | zero => intro j _ _; rfl
    | succ r ih =>
      intro j hj hr
      rw [cntLp, cntLp, hsum τ, hsum σ, ih (j + 1) (by omega) (by omega), hk j (by omega) (by omega)]
  have hmain : ∀ r j, j ≤ i → j + r = 8 → ∀ a, τ 10 + a + cntLp (mAllN τ) r j 0 = σ 10 + a + cntLp (mAllN σ) r j 0 := by
    intro r
    induction r with
    | zero => intro j hj hr; omega
    | succ r ih =>
      intro j hj hr a
      rw [cntLp, cntLp, hsum τ, hsum σ]
      by_cases hji : j = i
      · subst hji
        rw [hlp r (j + 1) (by omega) (by omega), ← Int32.add_assoc, ← Int32.add_assoc, h10 a]
      · rw [hk j (by omega) hji, ← Int32.add_assoc, ← Int32.add_assoc, Int32.add_assoc (τ 10), Int32.add_assoc (σ 10)]
        exact ih (j + 1) (by omega) (by omega) _
  have := hmain 8 0 (by omega) rfl 0
  rw [Int32.add_zero, Int32.add_zero] at this
  unfold mAll
  rw [hsum τ, hsum σ]
  exact this
/-- the owners -/
def OW (σ : Nat → Int32) (P : Nat) : Prop := ∀ i, i < 8 → σ (101 + 16 * i) = 1 → ∃ w, w ≤ P ∧ σ (101 + 16 * i + 4) = nI w
theorem mAllN_o {σ : Nat → Int32} {i : Nat} (hi : i < 8) (ho : σ (101 + 16 * i) = 1) : mAllN σ i 0 = σ 2 - σ (101 + 16 * i + 7) := by
  unfold mAllN
  rw [mInc_nI hi, if_pos ho, if_neg (by decide), Int32.zero_add]
theorem mAllN_c {σ : Nat → Int32} {i : Nat} (hi : i < 8) (ho : ¬ σ (101 + 16 * i) = 1) : mAllN σ i 0 = 0 := by
  unfold mAllN
  rw [mInc_nI hi, if_neg ho, if_pos rfl]
  rfl
theorem MI_P {σ : Nat → Int32} (hI : MI σ) : ∃ P, P ≤ 8 ∧ σ 0 = nI P := hI.1
theorem rep_close {v : mV} {h : Nat} {σ : Nat → Int32} {T B P : Nat} (hR : Rep v h σ 0) (hN : IN σ T B) (hP : P ≤ 8) (eP : σ 0 = nI P) (hW : OW σ P) (x : Int32) : OK (hsClose v h x) (mResolves σ x) h B := by
  have hI := hN.1.2.1.1
  have hMT := MT_resolves (x := x) hN.1.2.1
  unfold mResolves at hMT
  unfold hsClose mResolves
  rw [rep_open hR hN.1.2.2.1]
  by_cases h1 : mInc σ x = 0
  · rw [if_pos h1, if_pos h1]; exact OK_id hR hN
  · rw [if_neg h1] at hMT
    rw [if_neg h1, if_neg h1]
    obtain ⟨i, hi, rfl⟩ := mInc_of h1
    rw [nI_clamp (show i < 2 ^ 31 by omega)] at hMT ⊢
    have ho : σ (101 + 16 * i) = 1 := Classical.byContradiction (fun z => h1 ((mInc_nI0 hi).mpr z))
    obtain ⟨x0, x1⟩ := hR.2.2.2.2.2 i hi
    obtain ⟨⟨f1, f2, f3, f4, f5, f6, f7⟩, g1, g2, g3, g4, g5, g6⟩ := x1 ho
    obtain ⟨w, hw, ew⟩ := hW i hi ho
    obtain ⟨c1, c2, c3, c4, c5, c6, c7, c8, c9⟩ := hR.1.2.2
    obtain ⟨a1, a2, a3⟩ := hR.1.1
    obtain ⟨b1, b2, b3⟩ := hR.1.2.1
    rw [rep_hasP hR hI, f4, g2, hR.1.2.1.1]
    -- the closed state without the person's count
    have kA : ∀ τ : Nat → Int32, τ 2 = σ 2 → (∀ k, k < 8 → k ≠ i → τ (101 + 16 * k) = σ (101 + 16 * k) ∧ τ (101 + 16 * k + 7) = σ (101 + 16 * k + 7)) → τ (101 + 16 * i) = 0 → τ 10 = σ 10 + (σ 2 - σ (101 + 16 * i + 7)) → mAll τ = mAll σ := fun τ t2 tk t0 t10 => by
      refine mAll_i hi t2 tk (fun a => ?_)
      rw [mAllN_c hi (by rw [t0]; decide), mAllN_o hi ho, t10, Int32.add_zero, Int32.add_assoc, Int32.add_comm _ a, ← Int32.add_assoc]
    have hb : Rep (u2 (u2 v (h + (38 + i)) 0 0) (h + 37) 3 (v (h + 37) 3 + 1)) h (mRes3 σ i σ) 0 := by
      unfold mRes3
      refine Rep_i hR hi (fun c h1 h2 => ?_) (fun q h1 h2 => ?_) ⟨?_, ?_, ?_, ?_, ?_, ?_, ?_, ?_, ?_⟩ ?_ ⟨?_, fun hz => ?_⟩
      case refine_12 =>
        unfold RA
        rw [kA _ (by simp (disch := omega) only [upd_o]) (fun k hk hki => ⟨by simp (disch := omega) only [upd_o], by simp (disch := omega) only [upd_o]⟩) (by simp (disch := omega) only [upd_o, upd_r]) (by simp (disch := omega) only [upd_o, upd_r])]
        simp (disch := omega) only [u2_o, u2_r, upd_o, upd_r]
        exact hR.2.1
      case refine_14 =>
        simp (disch := omega) only [upd_o, upd_r] at hz
        exact absurd hz (by decide)
      all_goals simp (disch := omega) only [u2_o, u2_r, upd_o, upd_r]
      all_goals first | assumption | (rw [c4])
    have hIN : ∀ τ : Nat → Int32, MT τ T T → (∀ q, (q ≤ 2 ∨ 13 ≤ q) → (q < 101 + 16 * i ∨ 101 + 16 * i + 16 ≤ q) → (∀ w, w < 8 → q ≠ 16 + 5 * w + 3 ∧ q ≠ 16 + 5 * w + 4) → τ q = σ q) → τ (101 + 16 * i) = 0 → τ 12 = σ 12 → τ 11 = σ 11 → τ 9 = σ 9 → τ 10 = σ 10 + (σ 2 - σ (101 + 16 * i + 7)) → IN τ T B := fun τ m0 m1 m2 m3 m4 m5 m6 => by
      obtain ⟨a, ww, k1, k2, k3, k4⟩ := hN.2.2.1
      exact IN_i hN m0 hi m1 (Or.inl m2) (fun z => absurd z (by rw [m2]; decide)) ⟨a, ww, m3.trans k1, k2, m4.trans k3, k4⟩ m5 (kA τ (m1 2 (by omega) (by omega) (by omega)) (fun k hk hki => ⟨m1 _ (by omega) (by omega) (by omega), m1 _ (by omega) (by omega) (by omega)⟩) m2 m6)
    by_cases hw0 : w = 0
    · subst hw0
      have hno : mIn (σ (101 + 16 * i + 4) - 1) 0 (σ 0 - 1) = 0 := by
        unfold mIn
        rw [if_pos (by rw [ew]; decide)]
      have hnp : ¬ 0 < σ (101 + 16 * i + 4) := by rw [ew]; decide
      rw [if_neg hnp] at hMT
      rw [if_pos hno, if_neg hnp]
      refine OK_mk (T := T) rfl hb (hIN _ hMT (fun q h1 h2 h3 => ?_) ?_ ?_ ?_ ?_ ?_)
      all_goals unfold mRes3
      all_goals simp (disch := omega) only [upd_o, upd_r]
    · have hpos : 0 < σ (101 + 16 * i + 4) := by rw [ew]; exact (na_lt kn_0 rfl (by omega) (by omega)).mpr (by omega)
      have ew1 : σ (101 + 16 * i + 4) - 1 = nI (w - 1) := by rw [ew, show w = w - 1 + 1 by omega, nI_pred, Nat.add_sub_cancel]
      have hyes : ¬ mIn (nI (w - 1)) 0 (σ 0 - 1) = 0 := by
        rw [eP, show nI P - 1 = nI (P - 1) by rw [show P = P - 1 + 1 by omega, nI_pred, Nat.add_sub_cancel]]
        unfold mIn
        rw [if_neg (nI_nneg (by omega)), if_neg (by rw [na_lt rfl rfl (by omega) (by omega)]; omega)]
        decide
      rw [if_pos hpos, ew1] at hMT
      rw [ew1, if_neg hyes, if_pos hpos]
      rw [nI_clamp (show w - 1 < 2 ^ 31 by omega)] at hMT ⊢
      obtain ⟨p1, p2, p3, p4, p5⟩ := hb.2.2.1 (w - 1) (by omega)
      obtain ⟨r1, r2, r3, r4, r5⟩ := hR.2.2.1 (w - 1) (by omega)
      refine OK_mk (T := T) rfl ?_ (hIN _ hMT (fun q h1 h2 h3 => ?_) ?_ ?_ ?_ ?_ ?_)
      · refine Rep_p hb (i := w - 1) (by omega) (fun c hc => ?_) (fun q hq => ?_) ⟨?_, ?_, ?_, ?_, ?_⟩
        · simp (disch := omega) only [u2_o]
        · unfold mRes3
          by_cases hqa : q = 101 + 16 * i
          · subst hqa; simp (disch := omega) only [upd_o, upd_r]
          · by_cases hq10 : q = 10
            · subst hq10; simp (disch := omega) only [upd_o, upd_r]
            · by_cases hq6 : q = 6
              · subst hq6; simp (disch := omega) only [upd_r]
              · simp (disch := omega) only [upd_o]
        · unfold mRes3; simp (disch := omega) only [u2_o, u2_r, upd_o, upd_r]; exact r1
        · unfold mRes3; simp (disch := omega) only [u2_o, u2_r, upd_o, upd_r]; exact r2
        · unfold mRes3; simp (disch := omega) only [u2_o, u2_r, upd_o, upd_r]; exact r3
        · unfold mRes3; simp (disch := omega) only [u2_o, u2_r, upd_o, upd_r]; exact r4
        · unfold mRes3; simp (disch := omega) only [u2_o, u2_r, upd_o, upd_r]; rw [r5]
      · have := h3 (w - 1) (by omega)
        unfold mRes3
        simp (disch := omega) only [upd_o, upd_r]
      all_goals unfold mRes3
      all_goals simp (disch := omega) only [upd_o, upd_r]
