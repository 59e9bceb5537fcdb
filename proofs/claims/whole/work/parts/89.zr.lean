/-! ===== the relation at the start ===== -/
theorem mS0_0 {q : Nat} (h1 : q ≠ 13) (h2 : q ≠ 14) : mS0 q = 0 := by
  unfold mS0
  rw [upd_o h2, upd_o h1]
theorem i_nI0 {m : Nat} (hm : m < 2147483648) (h : (0 : Int32) = nI m) : m = 0 := ((na_eq kn_0 rfl (by omega) hm).mp h).symm
theorem mS0_MI : MI mS0 := by
  refine ⟨⟨0, by omega, mS0_0 (by omega) (by omega)⟩, ⟨0, by omega, mS0_0 (by omega) (by omega), fun k hk => absurd hk (by omega)⟩, ⟨0, by omega, mS0_0 (by omega) (by omega), fun i hi => ⟨0, by omega, mS0_0 (by omega) (by omega)⟩⟩, ⟨0, by omega, mS0_0 (by omega) (by omega)⟩, fun k hk => ⟨0, by omega, mS0_0 (by omega) (by omega)⟩, fun k j hk hj => ⟨0, by omega, mS0_0 (by omega) (by omega)⟩, fun k hk => ⟨0, by omega, mS0_0 (by omega) (by omega)⟩, fun i hi => ⟨0, by omega, mS0_0 (by omega) (by omega)⟩⟩
theorem mS0_no {i : Nat} {P : Prop} (h : mS0 (101 + 16 * i) = 1) : P := by
  rw [mS0_0 (by omega) (by omega)] at h
  exact absurd h (by decide)
theorem mS0_mAll : mAll mS0 = nI 0 := by decide +kernel
theorem mS0_INV : INV mS0 0 := by
  refine ⟨0, 0, ⟨⟨by omega, ⟨mS0_MI, mS0_0 (by omega) (by omega), fun i hi => ⟨0, by omega, mS0_0 (by omega) (by omega)⟩⟩, fun i hi => Or.inl (mS0_0 (by omega) (by omega)), fun i hi ho => mS0_no ho⟩, fun k hk => ⟨0, by omega, mS0_0 (by omega) (by omega)⟩, ⟨0, 0, mS0_0 (by omega) (by omega), by omega, mS0_0 (by omega) (by omega), by omega⟩, ⟨0, by omega, mS0_0 (by omega) (by omega)⟩, ⟨0, by omega, mS0_mAll⟩, fun k hk m hm em a b ha hb _ => ?_⟩, ⟨by omega, mS0_0 (by omega) (by omega), ⟨fun k hk m hm em j hj => ?_, fun O hO eO k hk => ?_⟩, fun i hi ho => mS0_no ho⟩, fun i hi ho => mS0_no ho⟩
  · rw [mS0_0 (by omega) (by omega)] at em
    have := i_nI0 (by omega) em
    omega
  · rw [mS0_0 (by omega) (by omega)] at em
    have := i_nI0 (by omega) em
    omega
  · rw [mS0_0 (by omega) (by omega)] at eO
    have := i_nI0 (by omega) eO
    omega
theorem v0_0 {q : Nat} (h1 : q ≠ 325) (h2 : q ≠ 94) (h3 : isHo q = false) (j : Nat) : vC0 q j = 0 := by rw [vC0_z h1 h2 h3]
theorem v0_h {q : Nat} (h : 1 < q ∧ q < 47) (j : Nat) : vC0 q j = 0 := v0_0 (by omega) (by omega) (isHo_no (by omega) (by omega) (by omega)) j
theorem v0_Rep : Rep vC0 1 mS0 0 := by
  refine ⟨?_, ?_, fun i hi => ?_, fun k hk => ?_, fun k hk => ?_, fun i hi => ?_⟩
  · unfold RS
    decide +kernel
  · unfold RA
    rw [mS0_mAll]
    decide +kernel
  · refine ⟨?_, ?_, ?_, ?_, ?_⟩ <;> rw [v0_h (by omega), mS0_0 (by omega) (by omega)]
  · refine ⟨?_, ?_, ?_, ?_, fun j hj => ?_⟩ <;> rw [v0_h (by omega), mS0_0 (by omega) (by omega)]
  · refine ⟨?_, ?_, ?_⟩ <;> rw [v0_h (by omega), mS0_0 (by omega) (by omega)]
  · refine ⟨?_, fun ho => mS0_no ho⟩
    rw [v0_h (by omega), mS0_0 (by omega) (by omega)]
theorem v0_hB {h : Nat} (hh : ∀ i, i < 8 → vC0 (h + (38 + i)) = fun _ => 0) : hB vC0 h := fun i hi => by
  rw [hh i hi]
  exact ⟨Or.inl rfl, Or.inl rfl⟩
theorem v0_CI : CI vC0 := by
  refine ⟨⟨0, by omega, v0_h (by omega) 5⟩, fun j hj => ?_, v0_hB (fun i hi => vC0_z (by omega) (by omega) (isHo_no (by omega) (by omega) (by omega))), fun q hq => v0_hB (fun i hi => vC0_z (by omega) (by omega) (isHo_no (by omega) (by omega) (by omega))), fun j hj => ?_, ⟨0, by omega, rfl⟩⟩
  · rw [show vC0 (93 + 1) j = nI j from rfl, nI_clamp (show j < 2 ^ 31 by omega)]
    exact hj
  · rw [v0_0 (by omega) (by omega) (isHo_no (by omega) (by omega) (by omega))]
    rfl
theorem zr_start : ZR vC0 wM0 0 0 0 := by
  refine ⟨⟨v0_Rep, mS0_INV, v0_CI⟩, ⟨⟨by omega, rfl, fun j hj => absurd hj (by omega)⟩, rfl⟩, ⟨rfl, rfl, by omega⟩, fun i j hi hj h => ?_, fun j hj => absurd hj (by omega)⟩
  unfold hP at h
  rw [show vC0 94 i = nI i from rfl, show vC0 94 j = nI j from rfl, nI_clamp (show i < 2 ^ 31 by omega), nI_clamp (show j < 2 ^ 31 by omega)] at h
  exact h
