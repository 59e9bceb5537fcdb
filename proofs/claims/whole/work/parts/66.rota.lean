/-! ===== class and reference: rotas ===== -/
theorem rgPlace_none {m : Nat} (hm : m ≤ 5) {row : Nat → Int32} {who : Int32} : ∀ (r i : Nat), i + r = 5 → (∀ q, i ≤ q → q < m → ¬ row q = who) → rgPlace (nI m) row who r i = -1
  | 0, _, _, _ => rfl
  | r + 1, i, hi, h => by
    unfold rgPlace
    by_cases h1 : i < m
    · rw [if_pos ((na_lt rfl rfl (by omega) (by omega)).mpr h1), if_neg (h i (Nat.le_refl i) h1)]
      exact rgPlace_none hm r (i + 1) (by omega) (fun q h2 h3 => h q (by omega) h3)
    · rw [if_neg (by rw [na_lt rfl rfl (by omega) (by omega)]; exact h1)]
theorem rgPlace_some {m q : Nat} (hm : m ≤ 5) (hq : q < m) {row : Nat → Int32} {who : Int32} (e : row q = who) : ∀ (r i : Nat), i + r = 5 → i ≤ q → (∀ q', i ≤ q' → q' < m → row q' = who → q' = q) → rgPlace (nI m) row who r i = nI q
  | 0, i, hi, hiq, _ => absurd hq (by omega)
  | r + 1, i, hi, hiq, h => by
    unfold rgPlace
    rw [if_pos ((na_lt rfl rfl (by omega) (by omega)).mpr (by omega))]
    by_cases h1 : row i = who
    · rw [if_pos h1, h i (Nat.le_refl i) (by omega) h1]
    · rw [if_neg h1]
      exact rgPlace_some hm hq e r (i + 1) (by omega) (by
        have : i ≠ q := fun z => h1 (by rw [z]; exact e)
        omega) (fun q' h2 h3 h4 => h q' (by omega) h3 h4)
theorem mPlLp_none {σ : Nat → Int32} {k : Nat} {y : Int32} : ∀ (r i : Nat) (f : Int32), (∀ q, i ≤ q → q < i + r → ¬ σ (56 + 9 * k + (4 + q)) = y) → mPlLp σ k y r i f = f
  | 0, _, _, _ => rfl
  | r + 1, i, f, h => by
    rw [mPlLp, if_neg (h i (Nat.le_refl i) (by omega))]
    exact mPlLp_none r (i + 1) f (fun q h1 h2 => h q (by omega) (by omega))
theorem mPlLp_some {σ : Nat → Int32} {k q : Nat} {y : Int32} (e : σ (56 + 9 * k + (4 + q)) = y) : ∀ (r i : Nat) (f : Int32), i ≤ q → q < i + r → (∀ q', i ≤ q' → q' < i + r → σ (56 + 9 * k + (4 + q')) = y → q' = q) → mPlLp σ k y r i f = nI q
  | 0, i, f, h1, h2, _ => absurd h2 (by omega)
  | r + 1, i, f, h1, h2, h => by
    rw [mPlLp]
    by_cases hiq : i = q
    · subst hiq
      rw [if_pos e]
      exact mPlLp_none r (i + 1) _ (fun q' h3 h4 h5 => by have := h q' (by omega) (by omega) h5; omega)
    · rw [if_neg (fun z => hiq (h i (Nat.le_refl i) (by omega) z))]
      exact mPlLp_some e r (i + 1) f (by omega) (by omega) (fun q' h3 h4 h5 => h q' (by omega) (by omega) h5)
/-- where a person stands in a rota: no place, or the place -/
theorem place_or {σ : Nat → Int32} {k m : Nat} (hk : k < 3) (hD : ID σ) (hm : m ≤ 5) (em : σ (56 + 9 * k + 3) = nI m) (y : Int32) : (mPlaceIn σ k y = -1 ∧ ∀ q, q < m → ¬ σ (56 + 9 * k + (4 + q)) = y) ∨ ∃ q, q < m ∧ mPlaceIn σ k y = nI q ∧ σ (56 + 9 * k + (4 + q)) = y ∧ ∀ q', q' < m → σ (56 + 9 * k + (4 + q')) = y → q' = q := by
  unfold mPlaceIn
  rw [em, nI_clamp (show m < 2 ^ 31 by omega)]
  by_cases hex : ∃ q, q < m ∧ σ (56 + 9 * k + (4 + q)) = y
  · obtain ⟨q, hq, e⟩ := hex
    have hu : ∀ q', q' < m → σ (56 + 9 * k + (4 + q')) = y → q' = q := fun q' h1 h2 => hD k hk m hm em q' q h1 hq (h2.trans e.symm)
    exact Or.inr ⟨q, hq, mPlLp_some e m 0 (-1) (by omega) (by omega) (fun q' _ h2 h3 => hu q' (by omega) h3), e, hu⟩
  · have hn : ∀ q, q < m → ¬ σ (56 + 9 * k + (4 + q)) = y := fun q hq e => hex ⟨q, hq, e⟩
    exact Or.inl ⟨mPlLp_none m 0 (-1) (fun q _ h2 => hn q (by omega)), hn⟩
theorem rep_place {v : mV} {h k : Nat} {σ : Nat → Int32} {d0 : Int32} (hR : Rep v h σ d0) (hI : MI σ) (hD : ID σ) (hk : k < 3) (y : Int32) : rgPlace (v (h + (21 + 3 * k)) 3) (v (h + (21 + 3 * k) + 2)) y 5 0 = mPlaceIn σ k y := by
  obtain ⟨m, hm, em⟩ := hI.2.2.2.2.1 k hk
  obtain ⟨-, -, -, d4, d5⟩ := hR.2.2.2.1 k hk
  rw [d4, em]
  rcases place_or hk hD hm em y with ⟨e, hn⟩ | ⟨q, hq, e, e2, hu⟩
  · rw [e]
    exact rgPlace_none hm 5 0 rfl (fun q _ h2 => by rw [d5 q (by omega)]; exact hn q h2)
  · rw [e]
    exact rgPlace_some hm hq (by rw [d5 q (by omega)]; exact e2) 5 0 rfl (by omega) (fun q' _ h2 h3 => hu q' h2 (by rw [← d5 q' (by omega)]; exact h3))
/-- a rota that is changed -/
theorem IN_r {σ τ : Nat → Int32} {T B k m : Nat} (hN : IN σ T B) (hk : k < 3) (hm : m ≤ 5) (hs : ∀ q, (q < 56 + 9 * k + 3 ∨ 56 + 9 * k + 9 ≤ q) → τ q = σ q) (em : τ (56 + 9 * k + 3) = nI m) (hp : ∀ j, j < 5 → ∃ p, p < 8 ∧ τ (56 + 9 * k + (4 + j)) = nI p) (hd : ∀ a b, a < m → b < m → τ (56 + 9 * k + (4 + a)) = τ (56 + 9 * k + (4 + b)) → a = b) : IN τ T B := by
  obtain ⟨⟨hT3, ⟨hI, h2, hL⟩, hBB, hQ⟩, hE, ⟨a, w, k1, k2, k3, k4⟩, ⟨u, u1, u2⟩, ⟨o, o1, o2⟩, hD⟩ := hN
  obtain ⟨⟨P, p1, p2⟩, ⟨R, r1, r2, r3⟩, ⟨T0, t1, t2, t3⟩, ⟨O, q1, q2⟩, i1, i2, i3, i4⟩ := hI
  have ho : ∀ k', k' < 3 → k' ≠ k → ∀ d, d < 9 → τ (56 + 9 * k' + d) = σ (56 + 9 * k' + d) := fun k' h1 h2 d hd' => hs _ (by omega)
  refine ⟨⟨hT3, ⟨⟨⟨P, p1, by rw [hs 0 (by omega)]; exact p2⟩, ⟨R, r1, by rw [hs 1 (by omega)]; exact r2, fun k' hk' => ?_⟩, ⟨T0, t1, by rw [hs 2 (by omega)]; exact t2, fun i hi => by rw [hs _ (by omega)]; exact t3 i hi⟩, ⟨O, q1, by rw [hs 15 (by omega)]; exact q2⟩, fun k' hk' => ?_, fun k' j hk' hj => ?_, fun k' hk' => by rw [hs _ (by omega)]; exact i3 k' hk', fun i hi => by rw [hs _ (by omega)]; exact i4 i hi⟩, by rw [hs 2 (by omega)]; exact h2, fun i hi => by rw [hs _ (by omega)]; exact hL i hi⟩, fun i hi => by rw [hs _ (by omega)]; exact hBB i hi, fun i hi hoi => IX_c (hQ i hi (by rw [← hs _ (by omega)]; exact hoi)) (fun d hd => hs _ (by omega))⟩, fun i hi => ?_, ⟨a, w, by rw [hs 12 (by omega)]; exact k1, k2, by rw [hs 11 (by omega)]; exact k3, k4⟩, ⟨u, u1, by rw [hs 9 (by omega)]; exact u2⟩, ⟨o, o1, ?_⟩, fun k' hk' m' hm' em' x y hx hy hxy => ?_⟩
  · by_cases hkk : k' = k
    · subst hkk; rw [hs _ (by omega)]; exact r3 k' hk'
    · rw [ho k' (by omega) hkk 2 (by omega)]; exact r3 k' hk'
  · by_cases hkk : k' = k
    · subst hkk; exact ⟨m, hm, em⟩
    · rw [ho k' hk' hkk 3 (by omega)]; exact i1 k' hk'
  · by_cases hkk : k' = k
    · subst hkk; exact hp j hj
    · rw [ho k' hk' hkk (4 + j) (by omega)]; exact i2 k' j hk' hj
  · rw [hs _ (by omega)]; exact hE i hi
  · rw [mAll_c (hs 10 (by omega)) (hs 2 (by omega)) (fun i hi => ⟨hs _ (by omega), fun _ => hs _ (by omega)⟩)]; exact o2
  · by_cases hkk : k' = k
    · subst hkk
      have : m' = m := (na_eq em' em (by omega) (by omega)).mp rfl
      subst this
      exact hd x y hx hy hxy
    · rw [ho k' hk' hkk _ (by omega), ho k' hk' hkk _ (by omega)] at hxy
      rw [ho k' hk' hkk 3 (by omega)] at em'
      exact hD k' hk' m' hm' em' x y hx hy hxy
theorem rep_join {v : mV} {h : Nat} {σ : Nat → Int32} {T B : Nat} (hR : Rep v h σ 0) (hN : IN σ T B) (x y : Int32) : OK (rsJoin v h x y) (mJoins σ x y) h B := by
  have hI := hN.1.2.1.1
  have hD := hN.2.2.2.2.2
  unfold rsJoin mJoins
  rw [rep_hasR hR hI, rep_hasP hR hI]
  by_cases h1 : mIn x 0 (σ 1 - 1) = 0
  · rw [if_pos h1, if_pos h1]; exact OK_id hR hN
  · rw [if_neg h1, if_neg h1]
    by_cases h2 : mIn y 0 (σ 0 - 1) = 0
    · rw [if_pos h2, if_pos h2]; exact OK_id hR hN
    · rw [if_neg h2, if_neg h2]
      obtain ⟨k, hk, rfl⟩ := mIn_R hI h1
      obtain ⟨p, hp, rfl⟩ := mIn_P hI h2
      obtain ⟨m, hm, em⟩ := hI.2.2.2.2.1 k hk
      rw [nI_clamp (show k < 2 ^ 31 by omega)]
      unfold rgAdd
      rw [rep_place hR hI hD hk]
      obtain ⟨d1, d2, d3, d4, d5⟩ := hR.2.2.2.1 k hk
      rcases place_or hk hD hm em (nI p) with ⟨e, hn⟩ | ⟨q, hq, e, e2, hu⟩
      · rw [e, if_pos rfl, if_pos (show (-1 : Int32) < 0 by decide), d4, em, if_neg (nI_nneg (by omega))]
        by_cases h5 : m = 5
        · subst h5
          rw [if_neg (by decide +kernel), if_pos (by decide +kernel)]; exact OK_id hR hN
        · rw [if_pos ((na_lt rfl kn_5 (by omega) (by omega)).mpr (by omega)), if_neg (fun z => h5 ((na_eq rfl kn_5 (by omega) (by omega)).mp z)), nI_clamp (show m < 2 ^ 31 by omega), nI_1]
          obtain ⟨a1, a2, a3⟩ := hR.1.1
          refine OK_mk (T := T) rfl ?_ ?_
          · refine Rep_r hR hk ⟨?_, ?_, ?_⟩ (fun c h0 h1 => ?_) (fun q h0 h1 => ?_) ⟨?_, ?_, ?_, ?_, fun j hj => ?_⟩
            · simp (disch := omega) only [u2_o, u2_r, upd_o, upd_r]; exact a1
            · simp (disch := omega) only [u2_o, u2_r, upd_o, upd_r]; exact a2
            · simp (disch := omega) only [u2_o, u2_r, upd_o, upd_r]; exact a3
            · simp (disch := omega) only [u2_o, u2_r, upd_o, upd_r]
            · simp (disch := omega) only [u2_o, u2_r, upd_o, upd_r]
            · simp (disch := omega) only [u2_o, u2_r, upd_o, upd_r]; exact d1
            · simp (disch := omega) only [u2_o, u2_r, upd_o, upd_r]; exact d2
            · simp (disch := omega) only [u2_o, u2_r, upd_o, upd_r]; exact d3
            · simp (disch := omega) only [u2_o, u2_r, upd_o, upd_r]
            · by_cases hjm : j = m
              · subst hjm
                rw [u2_o (by omega), u2_r, upd_r, upd_o (by omega), show 56 + 9 * k + (4 + j) = 56 + 9 * k + 4 + j by omega, upd_r]
              · rw [u2_o (by omega), u2_r, upd_o hjm, upd_o (by omega), upd_o (by omega)]
                exact d5 j hj
          · have hz : ∀ j, j ≠ m → upd (upd σ (56 + 9 * k + 4 + m) (nI p)) (56 + 9 * k + 3) (nI (m + 1)) (56 + 9 * k + (4 + j)) = σ (56 + 9 * k + (4 + j)) := fun j hj => by rw [upd_o (by omega), upd_o (by omega)]
            have hzm : upd (upd σ (56 + 9 * k + 4 + m) (nI p)) (56 + 9 * k + 3) (nI (m + 1)) (56 + 9 * k + (4 + m)) = nI p := by rw [upd_o (by omega), show 56 + 9 * k + (4 + m) = 56 + 9 * k + 4 + m by omega, upd_r]
            refine IN_r hN hk (m := m + 1) (by omega) (fun q hq => by rw [upd_o (by omega), upd_o (by omega)]) upd_r (fun j hj => ?_) (fun a b ha hb hab => ?_)
            · by_cases hjm : j = m
              · subst hjm; exact ⟨p, hp, hzm⟩
              · rw [hz j hjm]; exact hI.2.2.2.2.2.1 k j hk hj
            · by_cases ham : a = m
              · by_cases hbm : b = m
                · omega
                · subst ham
                  rw [hzm, hz b hbm] at hab
                  exact absurd hab.symm (hn b (by omega))
              · by_cases hbm : b = m
                · subst hbm
                  rw [hzm, hz a ham] at hab
                  exact absurd hab (hn a (by omega))
                · rw [hz a ham, hz b hbm] at hab
                  exact hD k hk m hm em a b (by omega) (by omega) hab
      · rw [e, if_neg (fun z => nI_nneg (j := q) (by omega) (by rw [z]; decide)), if_neg (nI_nneg (by omega))]
        exact OK_id hR hN
theorem rgShift_o {k q : Nat} {sz : Int32} (hq : q ≠ k + 2) : ∀ (r i : Nat) (v : mV), rgShift k sz r i v q = v q
  | 0, i, v => rfl
  | r + 1, i, v => by
    unfold rgShift
    split
    · rw [rgShift_o hq r, u2_o hq]
    · rfl
theorem rgShift_row {k m j : Nat} (hm : m ≤ 5) : ∀ (r i : Nat) (v : mV), i + r = 4 → rgShift k (nI m) r i v (k + 2) j = if i ≤ j ∧ j + 1 < m then v (k + 2) (j + 1) else v (k + 2) j
  | 0, i, v, hi => by
    rw [if_neg (by omega)]; rfl
  | r + 1, i, v, hi => by
    unfold rgShift
    rw [nI_1]
    by_cases h1 : i + 1 < m
    · rw [if_pos ((na_lt rfl rfl (by omega) (by omega)).mpr h1), rgShift_row hm r (i + 1) _ (by omega), u2_r]
      by_cases h2 : i + 1 ≤ j ∧ j + 1 < m
      · rw [if_pos h2, if_pos (by omega), upd_o (by omega)]
      · rw [if_neg h2]
        by_cases hj : j = i
        · subst hj
          rw [upd_r, if_pos (by omega)]
        · rw [upd_o hj, if_neg (by omega)]
    · rw [if_neg (by rw [na_lt rfl rfl (by omega) (by omega)]; exact h1), if_neg (by omega)]
theorem mShLp_row {i m j : Nat} : ∀ (r k : Nat) (σ : Nat → Int32), k + r = m - 1 → mShLp i r k σ (56 + 9 * i + 4 + j) = if k ≤ j ∧ j + 1 < m then σ (56 + 9 * i + 4 + j + 1) else σ (56 + 9 * i + 4 + j)
  | 0, k, σ, hk => by
    rw [if_neg (by omega)]; rfl
  | r + 1, k, σ, hk => by
    rw [mShLp, mShLp_row (m := m) r (k + 1) _ (by omega)]
    by_cases h2 : k + 1 ≤ j ∧ j + 1 < m
    · rw [if_pos h2, if_pos (by omega), upd_o (by omega)]
    · rw [if_neg h2]
      by_cases hj : j = k
      · subst hj
        rw [upd_r, if_pos (by omega)]
      · rw [upd_o (by omega), if_neg (by omega)]
theorem rep_leave {v : mV} {h : Nat} {σ : Nat → Int32} {T B : Nat} (hR : Rep v h σ 0) (hN : IN σ T B) (x y : Int32) : OK (rsLeave v h x y) (mLeaves σ x y) h B := by
  have hI := hN.1.2.1.1
  have hD := hN.2.2.2.2.2
  unfold rsLeave mLeaves
  rw [rep_hasR hR hI, rep_hasP hR hI]
  by_cases h1 : mIn x 0 (σ 1 - 1) = 0
  · rw [if_pos h1, if_pos h1]; exact OK_id hR hN
  · rw [if_neg h1, if_neg h1]
    by_cases h2 : mIn y 0 (σ 0 - 1) = 0
    · rw [if_pos h2, if_pos h2]; exact OK_id hR hN
    · rw [if_neg h2, if_neg h2]
      obtain ⟨k, hk, rfl⟩ := mIn_R hI h1
      obtain ⟨m, hm, em⟩ := hI.2.2.2.2.1 k hk
      rw [nI_clamp (show k < 2 ^ 31 by omega)]
      unfold rgRem
      rw [rep_place hR hI hD hk]
      obtain ⟨d1, d2, d3, d4, d5⟩ := hR.2.2.2.1 k hk
      rcases place_or hk hD hm em y with ⟨e, hn⟩ | ⟨q, hq, e, e2, hu⟩
      · rw [e, if_pos (show (-1 : Int32) < 0 by decide), if_pos (show (-1 : Int32) < 0 by decide)]
        exact OK_id hR hN
      · rw [e, if_neg (nI_nneg (by omega)), if_neg (nI_nneg (by omega)), d4, em, nI_clamp (show q < 2 ^ 31 by omega), nI_clamp (show m < 2 ^ 31 by omega)]
        have em1 : nI m - 1 = nI (m - 1) := by rw [show m = m - 1 + 1 by omega, nI_pred, Nat.add_sub_cancel]
        rw [em1]
        obtain ⟨a1, a2, a3⟩ := hR.1.1
        have hz : ∀ j, mShLp k (m - 1 - q) q (upd σ (56 + 9 * k + 3) (nI (m - 1))) (56 + 9 * k + (4 + j)) = if q ≤ j ∧ j + 1 < m then σ (56 + 9 * k + (4 + (j + 1))) else σ (56 + 9 * k + (4 + j)) := fun j => by
          rw [show 56 + 9 * k + (4 + j) = 56 + 9 * k + 4 + j by omega, show 56 + 9 * k + (4 + (j + 1)) = 56 + 9 * k + 4 + j + 1 by omega, mShLp_row (m := m) _ _ _ (by omega), upd_o (by omega), upd_o (by omega)]
        have hz3 : mShLp k (m - 1 - q) q (upd σ (56 + 9 * k + 3) (nI (m - 1))) (56 + 9 * k + 3) = nI (m - 1) := by rw [mShLp_o _ _ _ (by omega), upd_r]
        have hzo : ∀ r, (r < 56 + 9 * k + 3 ∨ 56 + 9 * k + 9 ≤ r) → mShLp k (m - 1 - q) q (upd σ (56 + 9 * k + 3) (nI (m - 1))) r = σ r := fun r hr => by rw [mShLp_o _ _ _ (by omega), upd_o (by omega)]
        refine OK_mk (T := T) rfl ?_ ?_
        · refine Rep_r hR hk ⟨?_, ?_, ?_⟩ (fun c h0 h1 => ?_) (fun r h0 h1 => hzo r (by omega)) ⟨?_, ?_, ?_, ?_, fun j hj => ?_⟩
          · rw [u2_o (by omega), rgShift_o (by omega), hzo 0 (by omega)]; exact a1
          · rw [u2_o (by omega), rgShift_o (by omega), hzo 1 (by omega)]; exact a2
          · rw [u2_o (by omega), rgShift_o (by omega), hzo 15 (by omega)]; exact a3
          · rw [u2_o (by omega), rgShift_o (by omega)]
          · rw [u2_o (by omega), rgShift_o (by omega), hzo _ (by omega)]; exact d1
          · rw [u2_o (by omega), rgShift_o (by omega), hzo _ (by omega)]; exact d2
          · rw [u2_r, upd_o (by omega), rgShift_o (by omega), hzo _ (by omega)]; exact d3
          · rw [u2_r, upd_r, hz3]
          · rw [u2_o (by omega), rgShift_row hm _ _ _ (by omega), hz j]
            by_cases hc : q ≤ j ∧ j + 1 < m
            · rw [if_pos hc, if_pos hc]; exact d5 (j + 1) (by omega)
            · rw [if_neg hc, if_neg hc]; exact d5 j hj
        · refine IN_r hN hk (m := m - 1) (by omega) hzo hz3 (fun j hj => ?_) (fun a b ha hb hab => ?_)
          · rw [hz j]
            split
            · exact hI.2.2.2.2.2.1 k (j + 1) hk (by omega)
            · exact hI.2.2.2.2.2.1 k j hk hj
          · rw [hz a, hz b] at hab
            by_cases hqa : q ≤ a
            · by_cases hqb : q ≤ b
              · rw [if_pos (by omega), if_pos (by omega)] at hab
                have := hD k hk m hm em (a + 1) (b + 1) (by omega) (by omega) hab
                omega
              · rw [if_pos (by omega), if_neg (by omega)] at hab
                have := hD k hk m hm em (a + 1) b (by omega) (by omega) hab
                omega
            · by_cases hqb : q ≤ b
              · rw [if_neg (by omega), if_pos (by omega)] at hab
                have := hD k hk m hm em a (b + 1) (by omega) (by omega) hab
                omega
              · rw [if_neg (by omega), if_neg (by omega)] at hab
                exact hD k hk m hm em a b (by omega) (by omega) hab
