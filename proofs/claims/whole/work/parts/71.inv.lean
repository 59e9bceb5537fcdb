/-! ===== class and reference: all changes, with all that holds ===== -/
theorem IW_joins {σ : Nat → Int32} {P : Nat} (hI : MI σ) (hW : IW σ P) (x y : Int32) : IW (mJoins σ x y).2 P := by
  unfold mJoins
  split
  · exact hW
  · rename_i h1
    obtain ⟨k0, hk0, rfl⟩ := mIn_R hI h1
    rw [nI_clamp (show k0 < 2 ^ 31 by omega)]
    split
    · exact hW
    · rename_i h2
      obtain ⟨p, hp, rfl⟩ := mIn_P2 hW.1 hW.2.1 h2
      split
      · split
        · exact hW
        · rename_i h5
          obtain ⟨m, hm, em⟩ := hI.2.2.2.2.1 k0 hk0
          have hm5 : m < 5 := by
            by_cases hz : m < 5
            · exact hz
            · exact absurd (by rw [em, show m = 5 by omega]; exact kn_5.symm) h5
          rw [em, nI_clamp (show m < 2 ^ 31 by omega), nI_1]
          show IW (upd (upd σ (56 + 9 * k0 + 4 + m) (nI p)) (56 + 9 * k0 + 3) (nI (m + 1))) P
          obtain ⟨a, b, ⟨c1, c2⟩, d⟩ := hW
          refine ⟨a, by rw [upd_o (by omega), upd_o (by omega)]; exact b, ⟨fun k hk m' hm' em' j hj => ?_, fun O hO eO k hk => ?_⟩, fun i hi ho => ?_⟩
          · by_cases hkk : k = k0
            · subst hkk
              rw [upd_r] at em'
              have : m' = m + 1 := ((na_eq rfl rfl (by omega) (by omega)).mp em').symm
              subst this
              by_cases hjm : j = m
              · subst hjm
                exact ⟨p, hp, by rw [upd_o (by omega), show 56 + 9 * k + (4 + j) = 56 + 9 * k + 4 + j by omega, upd_r]⟩
              · rw [upd_o (by omega), upd_o (by omega)]
                exact c1 k hk m hm em j (by omega)
            · rw [upd_o (by omega), upd_o (by omega)] at em'
              rw [upd_o (by omega), upd_o (by omega)]
              exact c1 k hk m' hm' em' j hj
          · rw [upd_o (by omega), upd_o (by omega)] at eO
            rw [upd_o (by omega), upd_o (by omega)]
            exact c2 O hO eO k hk
          · rw [upd_o (by omega), upd_o (by omega)] at ho
            rw [upd_o (by omega), upd_o (by omega)]
            exact d i hi ho
      · exact hW
theorem IW_leaves {σ : Nat → Int32} {P : Nat} (hI : MI σ) (hW : IW σ P) (x y : Int32) : IW (mLeaves σ x y).2 P := by
  unfold mLeaves
  split
  · exact hW
  · rename_i h1
    obtain ⟨k0, hk0, rfl⟩ := mIn_R hI h1
    rw [nI_clamp (show k0 < 2 ^ 31 by omega)]
    split
    · exact hW
    · split
      · exact hW
      · rename_i h3
        obtain ⟨m, hm, em⟩ := hI.2.2.2.2.1 k0 hk0
        obtain ⟨q, hq, eq⟩ := mPlaceIn_of hm em h3
        rw [em, eq, nI_clamp (show m < 2 ^ 31 by omega), nI_clamp (show q < 2 ^ 31 by omega), show nI m - 1 = nI (m - 1) by rw [show m = m - 1 + 1 by omega, nI_pred, Nat.add_sub_cancel]]
        show IW (mShLp k0 (m - 1 - q) q (upd σ (56 + 9 * k0 + 3) (nI (m - 1)))) P
        have hz : ∀ j, mShLp k0 (m - 1 - q) q (upd σ (56 + 9 * k0 + 3) (nI (m - 1))) (56 + 9 * k0 + (4 + j)) = if q ≤ j ∧ j + 1 < m then σ (56 + 9 * k0 + (4 + (j + 1))) else σ (56 + 9 * k0 + (4 + j)) := fun j => by
          rw [show 56 + 9 * k0 + (4 + j) = 56 + 9 * k0 + 4 + j by omega, show 56 + 9 * k0 + (4 + (j + 1)) = 56 + 9 * k0 + 4 + j + 1 by omega, mShLp_row (m := m) _ _ _ (by omega), upd_o (by omega), upd_o (by omega)]
        have hz3 : mShLp k0 (m - 1 - q) q (upd σ (56 + 9 * k0 + 3) (nI (m - 1))) (56 + 9 * k0 + 3) = nI (m - 1) := by rw [mShLp_o _ _ _ (by omega), upd_r]
        have hzo : ∀ r, (r < 56 + 9 * k0 + 3 ∨ 56 + 9 * k0 + 9 ≤ r) → mShLp k0 (m - 1 - q) q (upd σ (56 + 9 * k0 + 3) (nI (m - 1))) r = σ r := fun r hr => by rw [mShLp_o _ _ _ (by omega), upd_o (by omega)]
        obtain ⟨a, b, ⟨c1, c2⟩, d⟩ := hW
        refine ⟨a, by rw [hzo 0 (by omega)]; exact b, ⟨fun k hk m' hm' em' j hj => ?_, fun O hO eO k hk => ?_⟩, fun i hi ho => ?_⟩
        · by_cases hkk : k = k0
          · subst hkk
            rw [hz3] at em'
            have : m' = m - 1 := ((na_eq rfl rfl (by omega) (by omega)).mp em').symm
            subst this
            rw [hz j]
            split
            · exact c1 k hk m hm em (j + 1) (by omega)
            · exact c1 k hk m hm em j (by omega)
          · rw [hzo _ (by omega)] at em'
            rw [hzo _ (by omega)]
            exact c1 k hk m' hm' em' j hj
        · rw [hzo _ (by omega)] at eO
          rw [hzo _ (by omega)]
          exact c2 O hO eO k hk
        · rw [hzo _ (by omega)] at ho
          rw [hzo _ (by omega)]
          exact d i hi ho
/-- what holds of the state between two calls, with the bound B of the acknowledgements -/
def INV (σ : Nat → Int32) (B : Nat) : Prop := ∃ T P, IN σ T B ∧ IW σ P ∧ IF' σ
theorem INV.MI {σ : Nat → Int32} {B : Nat} (h : INV σ B) : MI σ := by
  obtain ⟨T, P, h, -⟩ := h
  exact h.1.2.1.1
theorem INV.B {σ : Nat → Int32} {B B' : Nat} (h : INV σ B) (hb : B ≤ B') : INV σ B' := by
  obtain ⟨T, P, h1, h2⟩ := h
  exact ⟨T, P, IN_B h1 hb, h2⟩
def OKW (a : Int32 × mV) (b : Int32 × (Nat → Int32)) (h B : Nat) : Prop := a.1 = b.1 ∧ Rep a.2 h b.2 0 ∧ INV b.2 B
theorem OKW_of {a : Int32 × mV} {b : Int32 × (Nat → Int32)} {h B P : Nat} (hk : OK a b h B) (hw : IW b.2 P) (hf : IF' b.2) : OKW a b h B := by
  obtain ⟨h1, h2, T, h3⟩ := hk
  exact ⟨h1, h2, T, P, h3, hw, hf⟩
theorem OKW.up {a : Int32 × mV} {b : Int32 × (Nat → Int32)} {h B B' : Nat} (hk : OKW a b h B) (hb : B ≤ B') : OKW a b h B' := ⟨hk.1, hk.2.1, hk.2.2.B hb⟩
section OPS
variable {v : mV} {h B : Nat} {σ : Nat → Int32}
theorem ok_person (hR : Rep v h σ 0) (hV : INV σ B) : OKW (rsAddPerson v h) (mComes σ) h B := by
  obtain ⟨T, P, hN, hW, hF⟩ := hV
  obtain ⟨P', hw⟩ := IW_comes hW
  exact OKW_of (rep_addPerson hR hN) hw (IF_comes hF)
theorem ok_region (hR : Rep v h σ 0) (hV : INV σ B) (x y z : Int32) : OKW (rsAddRegion v h x y z) (mLies σ x y z) h B := by
  obtain ⟨T, P, hN, hW, hF⟩ := hV
  exact OKW_of (rep_addRegion hR hN x y z) (IW_lies hN.1.2.1.1 hW x y z) (IF_lies hN.1.2.1.1 hF x y z)
theorem ok_join (hR : Rep v h σ 0) (hV : INV σ B) (x y : Int32) : OKW (rsJoin v h x y) (mJoins σ x y) h B := by
  obtain ⟨T, P, hN, hW, hF⟩ := hV
  exact OKW_of (rep_join hR hN x y) (IW_joins hN.1.2.1.1 hW x y) (IF_joins hN.1.2.1.1 hF x y)
theorem ok_leave (hR : Rep v h σ 0) (hV : INV σ B) (x y : Int32) : OKW (rsLeave v h x y) (mLeaves σ x y) h B := by
  obtain ⟨T, P, hN, hW, hF⟩ := hV
  exact OKW_of (rep_leave hR hN x y) (IW_leaves hN.1.2.1.1 hW x y) (IF_leaves hN.1.2.1.1 hF x y)
theorem ok_quiet (hR : Rep v h σ 0) (hV : INV σ B) (x y z : Int32) : OKW (rsQuiet v h x y z) (mRests σ x y z) h B := by
  obtain ⟨T, P, hN, hW, hF⟩ := hV
  exact OKW_of (rep_quiet hR hN x y z) (IW_rests hN.1.2.1.1 hW x y z) (IF_rests hN.1.2.1.1 hF x y z)
theorem ok_except (hR : Rep v h σ 0) (hV : INV σ B) (x y : Int32) : OKW (rsExcept v h x y) (mExcs σ x y) h B := by
  obtain ⟨T, P, hN, hW, hF⟩ := hV
  exact OKW_of (rep_except hR hN x y) (IW_excs hN.1.2.1.1 hW x y) (IF_excs hN.1.2.1.1 hF x y)
theorem ok_override (hR : Rep v h σ 0) (hV : INV σ B) (x y z : Int32) : OKW (hsPutStand v h x y z) (mOverrides σ x y z) h B := by
  obtain ⟨T, P, hN, hW, hF⟩ := hV
  exact OKW_of (rep_override hR hN x y z) (IW_overrides hN.1.2.1.1 hW x y z) (IF_overrides hN.1.2.1.1 hF x y z)
theorem ok_alert (hR : Rep v h σ 0) (hV : INV σ B) (x y : Int32) : OKW (hsAlert v h x y) (mAlerts σ x y) h B := by
  obtain ⟨T, P, hN, hW, hF⟩ := hV
  exact OKW_of (rep_alert hR hN x y) (IW_alerts hN.1.2.1.1 hW x y) (IF_alerts hN hF x y)
theorem ok_ack (hR : Rep v h σ 0) (hV : INV σ B) (x : Int32) : OKW (hsAck v h x) (mAcks σ x) h (B + 1) := by
  obtain ⟨T, P, hN, hW, hF⟩ := hV
  exact OKW_of (rep_ack hR hN x) (IW_acks hW x) (IF_acks hF x)
theorem ok_close (hR : Rep v h σ 0) (hV : INV σ B) (x : Int32) : OKW (hsClose v h x) (mResolves σ x) h B := by
  obtain ⟨T, P, hN, hW, hF⟩ := hV
  exact OKW_of (rep_close hR hN hW.1 hW.2.1 hW.2.2.2 x) (IW_resolves hN.1.2.1.1 hW x) (IF_resolves hN.1.2.1.1 hF x)
theorem ok_pass (hR : Rep v h σ 0) (hV : INV σ B) (x : Int32) : OKW (hsPass v h x) (mPass σ x) h B := by
  obtain ⟨T, P, hN, hW, hF⟩ := hV
  exact OKW_of (rep_pass hR hN x) (IW_pass hN.1.2.1 hN.1.1 hW x) (IF_pass hN.1.2.1 hN.1.1 hF x)
theorem ok_set (hR : Rep v h σ 0) (hV : INV σ B) (x y : Int32) : OKW (hsSet v h x y) (mSets σ x y) h B := by
  obtain ⟨T, P, hN, hW, hF⟩ := hV
  exact OKW_of (rep_set hR hN x y) (IW_sets hW x y) (IF_sets hF x y)
end OPS
