/-! ===== the two objects as they are made ===== -/
def tplC (g : mG) (b : Nat) : mT := fun q => if q = 0 then tPR b else if q < 47 then hT g b 1 q else if q < 93 then hT g b 47 q else if q = 93 then tHist b 93 else if q = 94 then tStates g b 93 else if q < 325 then hT g b (93 + (2 + 46 * ((q - 95) / 46))) q else if q = 325 then tScript b 325 else if q = 326 then tSigns g else tNums g
def tplM (g : mG) (b : Nat) : mT := fun q => if q = 0 then tModel b else if q = 4 then tArr g 916 else if q = 5 then tArr g 80 else if q = 6 then tArr g 3 else tArr g 229
def isHo (q : Nat) : Bool := q == 1 || q == 47 || (Nat.ble 95 q && Nat.ble (q + 1) 325 && (q - 95) % 46 == 0)
def vC0 : mV := fun q j => if q = 325 then (if j = 6 then -1 else 0) else if q = 94 then nI j else if isHo q = true then (if j = 4 then 10 else if j = 5 then 30 else 0) else 0
def wM0 : mV := fun q => if q = 1 then mS0 else fun _ => 0
theorem isH_of {g : mG} {tpl : mT} {b n h : Nat} (ht : ∀ q, h ≤ q → q < h + 46 → tpl q = hT g b h q) (hn : h + 46 ≤ n) : isH g tpl b n h := by
  have T : isT g tpl b n h := by
    refine ⟨(ht _ (by omega) (by omega)).trans hT_1, (ht _ (by omega) (by omega)).trans hT_2, (ht _ (by omega) (by omega)).trans hT_3, (ht _ (by omega) (by omega)).trans hT_4, fun i hi => ⟨(ht _ (by omega) (by omega)).trans (hT_p hi), (ht _ (by omega) (by omega)).trans (hT_ps hi), by omega⟩, fun i hi => ⟨(ht _ (by omega) (by omega)).trans (hT_r hi), (ht _ (by omega) (by omega)).trans (hT_rs hi), (ht _ (by omega) (by omega)).trans (hT_rr hi), by omega⟩, fun i hi => (ht _ (by omega) (by omega)).trans (hT_s hi), hn⟩
  exact ⟨(ht _ (by omega) (by omega)).trans hT_0, T, (ht _ (by omega) (by omega)).trans hT_36, (ht _ (by omega) (by omega)).trans hT_37, fun i hi => (ht _ (by omega) (by omega)).trans (hT_i hi), hn⟩
theorem tplC_1 {g : mG} {b q : Nat} (h1 : 1 ≤ q) (h2 : q < 47) : tplC g b q = hT g b 1 q := by
  unfold tplC
  rw [if_neg (by omega), if_pos h2]
theorem tplC_2 {g : mG} {b q : Nat} (h1 : 47 ≤ q) (h2 : q < 93) : tplC g b q = hT g b 47 q := by
  unfold tplC
  rw [if_neg (by omega), if_neg (by omega), if_pos h2]
theorem tplC_3 {g : mG} {b q i : Nat} (hi : i < 5) (h1 : 93 + (2 + 46 * i) ≤ q) (h2 : q < 93 + (2 + 46 * i) + 46) : tplC g b q = hT g b (93 + (2 + 46 * i)) q := by
  unfold tplC
  rw [if_neg (by omega), if_neg (by omega), if_neg (by omega), if_neg (by omega), if_neg (by omega), if_pos (by omega), show (q - 95) / 46 = i by omega]
theorem isZ_C {g : mG} {b : Nat} : isZ g (tplC g b) b 328 := by
  refine ⟨rfl, isH_of (fun q h1 h2 => tplC_1 h1 h2) (by omega), isH_of (fun q h1 h2 => tplC_2 h1 h2) (by omega), ⟨rfl, rfl, fun i hi => isH_of (fun q h1 h2 => tplC_3 hi h1 h2) (by omega), by omega⟩, ⟨rfl, rfl, rfl, by omega⟩, by omega⟩
theorem isM_M {g : mG} {b : Nat} : isM g (tplM g b) b 7 := ⟨rfl, rfl, rfl, rfl, rfl, rfl, rfl, Nat.le_refl 7⟩
theorem vC0_z {q : Nat} (h1 : q ≠ 325) (h2 : q ≠ 94) (h3 : isHo q = false) : vC0 q = fun _ => 0 := by
  funext j
  unfold vC0
  rw [if_neg h1, if_neg h2, if_neg (by rw [h3]; decide)]
theorem vC0_h {q : Nat} (h1 : q ≠ 325) (h2 : q ≠ 94) (h3 : isHo q = true) : vC0 q 3 = 0 ∧ vC0 q 4 = 10 ∧ vC0 q 5 = 30 := by
  unfold vC0
  simp only [if_neg h1, if_neg h2, if_pos h3]
  decide
theorem isHo_no {q : Nat} (h1 : q ≠ 1) (h2 : q ≠ 47) (h3 : ¬ (95 ≤ q ∧ q < 325 ∧ (q - 95) % 46 = 0)) : isHo q = false := by
  unfold isHo
  rw [beq_false_of_ne h1, beq_false_of_ne h2]
  simp only [Bool.false_or]
  by_cases h : 95 ≤ q ∧ q < 325
  · rw [beq_false_of_ne (show (q - 95) % 46 ≠ 0 by omega)]
    simp
  · by_cases h4 : 95 ≤ q
    · have : Nat.ble (q + 1) 325 = false := by
        rw [Bool.eq_false_iff]
        intro z
        have := Nat.le_of_ble_eq_true z
        omega
      rw [this]
      simp
    · have : Nat.ble 95 q = false := by
        rw [Bool.eq_false_iff]
        intro z
        exact h4 (Nat.le_of_ble_eq_true z)
      rw [this]
      simp
theorem hEm_at {g : mG} {b h q : Nat} {r : Nat → Int32} (h1 : q ≠ h → r = fun _ => 0) (h2 : q = h → r 3 = 0 ∧ r 4 = 10 ∧ r 5 = 30) : hEm g b h q = hT g b h q r := by
  by_cases hq : q = h
  · subst hq
    obtain ⟨a, c, d⟩ := h2 rfl
    rw [hE_0, hT_0]
    show _ = (Sum.inr (1, [Value.ref _, .ref _, .ref _, .int (r 3), .int (r 4), .int (r 5)]) : va_E)
    rw [a, c, d]
  · rw [hE_o hq, h1 hq]
theorem conv_C {g : mG} {D : va_G} {a b q : Nat} (hq : q < 328) : va_at D vwCl (a, tplE g b q) = va_at D vwCl (a, tplC g b q (vC0 q)) := by
  by_cases c0 : q = 0
  · subst c0
    rfl
  by_cases c1 : q < 47
  · rw [tplE_1 c0 c1, tplC_1 (by omega) c1]
    refine va_cg (hEm_at (fun h => vC0_z (by omega) (by omega) (isHo_no h (by omega) (by omega))) (fun h => ?_))
    subst h
    exact vC0_h (by omega) (by omega) rfl
  by_cases c2 : q < 93
  · rw [tplE_2 c1 c2, tplC_2 (by omega) c2]
    refine va_cg (hEm_at (fun h => vC0_z (by omega) (by omega) (isHo_no (by omega) h (by omega))) (fun h => ?_))
    subst h
    exact vC0_h (by omega) (by omega) rfl
  by_cases c3 : q < 325
  · rw [tplE_3 c2 c3]
    by_cases c4 : q = 93
    · subst c4
      exact va_cg rfl
    by_cases c5 : q = 94
    · subst c5
      funext H
      show (H[a]? = some (vp_cell (g.2 2) (5, .inr (.inr (.inr (.inr (qF 5 (fun j => b + (93 + (2 + 46 * j)))))))))) = (H[a]? = some (vp_cell (g.2 2) (5, .inr (.inr (.inr (.inr (fun i => some (b + (93 + (2 + 46 * (vC0 94 i).toNatClampNeg)))))))) ))
      rw [vp_cell_q, vp_cell_q, arrV_congr (f' := fun j => va_rf (some (b + (93 + (2 + 46 * (vC0 94 j).toNatClampNeg))))) (fun j hj => by rw [show vC0 94 j = nI j from rfl, nI_clamp (show j < 2 ^ 31 by omega), show qF 5 (fun j => b + (93 + (2 + 46 * j))) j = some (b + (93 + (2 + 46 * j))) from if_pos hj])]
    have hi : (q - 95) / 46 < 5 := by omega
    rw [tmX0_h (i := (q - 95) / 46) (by omega) (by omega), tplC_3 hi (by omega) (by omega)]
    refine va_cg (hEm_at (fun h => vC0_z (by omega) (by omega) (isHo_no (by omega) (by omega) (by omega))) (fun h => vC0_h (by omega) (by omega) ?_))
    have : (q - 95) % 46 = 0 := by omega
    unfold isHo
    rw [this, Nat.ble_eq_true_of_le (show 95 ≤ q by omega), Nat.ble_eq_true_of_le (show q + 1 ≤ 325 by omega)]
    simp
  rw [tplE_4 c3]
  by_cases c4 : q = 325
  · subst c4
    exact va_cg rfl
  by_cases c5 : q = 326
  · subst c5
    exact va_cg rfl
  obtain rfl : q = 327 := by omega
  exact va_cg rfl
theorem conv_M {g : mG} {b q : Nat} (hq : q < 7) : tmM g b q = tplM g b q (wM0 q) := by
  have : q = 0 ∨ q = 1 ∨ q = 2 ∨ q = 3 ∨ q = 4 ∨ q = 5 ∨ q = 6 := by omega
  rcases this with rfl | rfl | rfl | rfl | rfl | rfl | rfl <;> rfl
theorem mem_C {g : mG} {b : Nat} {H : Heap} (h : va_P g.1 vwCl (mE b 328 (tplE g b)) H) : va_P g.1 vwCl (mW b 328 (tplC g b) vC0) H := by
  intro k q hq
  obtain ⟨hk, rfl⟩ := mW_of hq
  rw [← conv_C hk]
  exact h k _ (mE_get hk rfl)
theorem mem_M {g : mG} {b : Nat} {H : Heap} (h : va_P g.1 vwCl (mE b 7 (tmM g b)) H) : va_P g.1 vwCl (mW b 7 (tplM g b) wM0) H := by
  intro k q hq
  obtain ⟨hk, rfl⟩ := mW_of hq
  rw [← conv_M hk]
  exact h k _ (mE_get hk rfl)
