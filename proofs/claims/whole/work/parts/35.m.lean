theorem mIn_600 {x : Int32} (h : ¬ mIn x 1 600 = 0) : ∃ M : Nat, M ≤ 600 ∧ x = nI M := by
  unfold mIn at h
  split at h
  · exact absurd rfl h
  · rename_i h0
    split at h
    · exact absurd rfl h
    · rename_i h1
      exact nI_of2 (n := 600) (M := 600) (by decide +kernel) (fun z => h0 (Int32.lt_trans z (by decide))) (Int32.not_lt.mp h1)
set_option maxRecDepth 100000 in
set_option maxHeartbeats 4000000 in
theorem c_X11_minute {g : mG} {l : Launch} {tpl : mT} {b n : Nat} {v : mV} {σ : Nat → Int32} (hm : isM g tpl b n) (T B : Nat) (hM : MT σ T B) (hT : T < 31000) (hB : B ≤ 60000) : CT g l tpl b n yX11_minute cX11_minute 2 none rm_X11_minute [.ref (b + 0)] (sv v σ) (pV (sv v (mMinute σ))) := by
  refine CT.introV [some (.ref (b + 0)), none] (own := RX11) (by decide +kernel) rfl rfl rfl rfl ?_
  intro p e s m args below meth c Q C hE
  refine r_aload_n C dX11_minute_0 rfl ?_
  refine gf_X11_7 C dX11_minute_1 hm.1 (hm.k (by decide)) ?_
  refine r_iconst C dX11_minute_4 ic_2 ?_
  refine r_dup2 C dX11_minute_5 rfl rfl ?_
  refine r_sld C dX11_minute_6 hm (j := 2) kn_2 (by omega) ?_
  refine r_iconst C dX11_minute_7 ic_1 ?_
  refine r_iadd C dX11_minute_8 ?_
  refine r_sst C dX11_minute_9 hm (j := 2) kn_2 (by omega) ?_
  refine r_iconst C dX11_minute_10 ic_0 ?_
  refine r_istore_n C dX11_minute_11 rfl rfl ?_
  have loop_12 : ∀ (r : Nat) (i : Nat) (τ : Nat → Int32), (i + r = 8) → (MI τ) → (∀ k, i ≤ k → k < 8 → ∃ l, l ≤ 60000 ∧ τ (101 + 16 * k + 3) = nI l) → (mMinLp r i τ = mMinute σ) → WM g p l e rm_X11_minute s m args below meth c Q tpl b n (sv v τ) 12 [some (.ref (b + 0)), some (.int (nI i))] [] := by
    intro r
    induction r with
    | zero =>
      intro i τ hi hI hL hR
      refine r_iload_n C dX11_minute_12 rfl ?_
      refine r_bipush C dX11_minute_13 bp_8 ?_
      refine r_icmp_ge (tgt := 37) C dX11_minute_15 rfl (fun c_15 => ?_) (fun c_15 => ?_)
      · skip
        exact hE _ _ _ dX11_minute_37 (And.intro rfl (by rw [← hR]; rfl))
      · exact absurd c_15 (nI_nlt (a := i) (b := 8) (by omega) (by omega))
    | succ r ih_12 =>
      intro i τ hi hI hL hR
      refine r_iload_n C dX11_minute_12 rfl ?_
      refine r_bipush C dX11_minute_13 bp_8 ?_
      refine r_icmp_ge (tgt := 37) C dX11_minute_15 rfl (fun c_15 => ?_) (fun c_15 => ?_)
      · exact absurd (nI_lt (a := i) (b := 8) (by omega) (by omega)) c_15
      · skip
        refine r_aload_n C dX11_minute_18 rfl ?_
        refine r_iload_n C dX11_minute_19 rfl ?_
        refine cvI_X11_70 C dX11_minute_20 (c_X11_isIncident hm _) hm.1 (hm.k (by decide)) ⟨rfl, rfl⟩ rfl rfl rfl ?_
        refine r_if_eq (tgt := 31) C dX11_minute_23 rfl (fun c_23 => ?_) (fun c_23 => ?_)
        · skip
          have hI3 : MI τ := hI
          have hL3 : ∀ k, i + 1 ≤ k → k < 8 → ∃ l, l ≤ 60000 ∧ τ (101 + 16 * k + 3) = nI l := fun k h1 h2 => hL k (by omega) h2
          refine r_iinc C dX11_minute_31 rfl (nI_inc _) rfl ?_
          refine r_goto (tgt := 12) C dX11_minute_34 rfl ?_
          exact ih_12 (i + 1) _ (by omega) hI3 hL3 (by rw [← hR]; simp [mMinLp, c_15, c_23])
        · skip
          have hI3 : MI (mMinOf τ i) := mMinOf_MI hI (by omega) (hL i (Nat.le_refl i) (by omega))
          have hL3 : ∀ k, i + 1 ≤ k → k < 8 → ∃ l, l ≤ 60000 ∧ mMinOf τ i (101 + 16 * k + 3) = nI l := fun k h1 h2 => by rw [mMinOf_lvl hI (by omega) (hL i (Nat.le_refl i) (by omega)) (by omega)]; exact hL k (by omega) h2
          refine r_aload_n C dX11_minute_26 rfl ?_
          refine r_iload_n C dX11_minute_27 rfl ?_
          refine cvV_X11_74 C dX11_minute_28 (c_X11_minuteOf hm hI i (by omega) (hL i (Nat.le_refl i) (by omega))) hm.1 (hm.k (by decide)) ⟨rfl, rfl⟩ rfl rfl rfl ?_
          refine r_iinc C dX11_minute_31 rfl (nI_inc _) rfl ?_
          refine r_goto (tgt := 12) C dX11_minute_34 rfl ?_
          exact ih_12 (i + 1) _ (by omega) hI3 hL3 (by rw [← hR]; simp [mMinLp, c_15, c_23])
  exact loop_12 8 0 _ rfl (by rw [hM.2.1, nI_1]; exact MI_time hM.1 (by omega)) (fun k _ hk => by obtain ⟨l, h1, h2⟩ := hM.2.2 k hk; exact ⟨l, by omega, by rw [upd_o (by omega)]; exact h2⟩) rfl
set_option maxRecDepth 100000 in
set_option maxHeartbeats 4000000 in
theorem c_X11_passes {g : mG} {l : Launch} {tpl : mT} {b n : Nat} {v : mV} {σ : Nat → Int32} (hm : isM g tpl b n) (T : Nat) (hM : MT σ T T) (hT : T ≤ 30000) (x : Int32) : CT g l tpl b n yX11_passes cX11_passes 4 (some .int) rm_X11_passes [.ref (b + 0), .int x] (sv v σ) (pI (mPass σ x).1 (sv v (mPass σ x).2)) := by
  refine CT.introI [some (.ref (b + 0)), some (.int x), none, none] (own := RX11) (by decide +kernel) rfl rfl rfl rfl ?_
  intro p e s m args below meth c Q C hE
  refine r_iload_n C dX11_passes_0 rfl ?_
  refine r_iconst C dX11_passes_1 ic_1 ?_
  refine r_sipush C dX11_passes_2 sp_600 ?_
  refine cvI_X11_32 C dX11_passes_5 (c_X11_in _ _ _) ⟨rfl, rfl⟩ rfl rfl rfl ?_
  refine r_if_ne (tgt := 13) C dX11_passes_8 rfl (fun c_8 => ?_) (fun c_8 => ?_)
  · skip
    refine r_aload_n C dX11_passes_13 rfl ?_
    refine gf_X11_7 C dX11_passes_14 hm.1 (hm.k (by decide)) ?_
    refine r_iconst C dX11_passes_17 ic_2 ?_
    refine r_sld C dX11_passes_18 hm (j := 2) kn_2 (by omega) ?_
    refine r_iload_n C dX11_passes_19 rfl ?_
    refine r_iadd C dX11_passes_20 ?_
    refine r_sipush C dX11_passes_21 sp_30000 ?_
    refine r_icmp_le (tgt := 30) C dX11_passes_24 rfl (fun c_24 => ?_) (fun c_24 => ?_)
    · skip
      obtain ⟨M, hM6, rfl⟩ : ∃ M : Nat, M ≤ 600 ∧ x = nI M := mIn_600 c_8
      have nM : (nI M).toNatClampNeg = M := nI_clamp (by omega)
      have hA : mPass σ (nI M) = (mMins M σ 5 - σ 5, mMins M σ) := by rw [mPass, if_neg c_8, if_neg c_24, nM]
      have hT2 : T + M ≤ 30000 := by
        by_cases hz : T + M ≤ 30000
        · exact hz
        · exact absurd (by rw [hM.2.1, nI_add]; exact (na_lt kn_30000 rfl (by omega) (by omega)).mpr (by omega)) c_24
      refine r_aload_n C dX11_passes_30 rfl ?_
      refine gf_X11_7 C dX11_passes_31 hm.1 (hm.k (by decide)) ?_
      refine r_iconst C dX11_passes_34 ic_5 ?_
      refine r_sld C dX11_passes_35 hm (j := 5) kn_5 (by omega) ?_
      refine r_istore_n C dX11_passes_36 rfl rfl ?_
      refine r_iconst C dX11_passes_37 ic_0 ?_
      refine r_istore_n C dX11_passes_38 rfl rfl ?_
      have loop_39 : ∀ (r : Nat) (i : Nat) (τ : Nat → Int32), (i + r = M) → (MT τ (T + i) (T + i)) → (mMins r τ = mMins M σ) → WM g p l e rm_X11_passes s m args below meth c Q tpl b n (sv v τ) 39 [some (.ref (b + 0)), some (.int (nI M)), some (.int (σ 5)), some (.int (nI i))] [] := by
        intro r
        induction r with
        | zero =>
          intro i τ hi hMi hR
          refine r_iload_n C dX11_passes_39 rfl ?_
          refine r_iload_n C dX11_passes_40 rfl ?_
          refine r_icmp_ge (tgt := 54) C dX11_passes_41 rfl (fun c_41 => ?_) (fun c_41 => ?_)
          · skip
            refine r_aload_n C dX11_passes_54 rfl ?_
            refine gf_X11_7 C dX11_passes_55 hm.1 (hm.k (by decide)) ?_
            refine r_iconst C dX11_passes_58 ic_5 ?_
            refine r_sld C dX11_passes_59 hm (j := 5) kn_5 (by omega) ?_
            refine r_iload_n C dX11_passes_60 rfl ?_
            refine r_isub C dX11_passes_61 ?_
            exact hE _ _ _ _ dX11_passes_62 (by rw [hA, ← hR]; exact And.intro rfl rfl)
          · exact absurd c_41 (nI_nlt (by omega) (by omega))
        | succ r ih_39 =>
          intro i τ hi hMi hR
          refine r_iload_n C dX11_passes_39 rfl ?_
          refine r_iload_n C dX11_passes_40 rfl ?_
          refine r_icmp_ge (tgt := 54) C dX11_passes_41 rfl (fun c_41 => ?_) (fun c_41 => ?_)
          · exact absurd (nI_lt (by omega) (by omega)) c_41
          · skip
            refine r_aload_n C dX11_passes_44 rfl ?_
            refine cvV_X11_105 C dX11_passes_45 (c_X11_minute hm (T + i) (T + i) hMi (by omega) (by omega)) hm.1 (hm.k (by decide)) ⟨rfl, rfl⟩ rfl rfl rfl ?_
            refine r_iinc C dX11_passes_48 rfl (nI_inc _) rfl ?_
            refine r_goto (tgt := 39) C dX11_passes_51 rfl ?_
            exact ih_39 (i + 1) _ (by omega) (mMinute_MT (T := T + i) (B := T + i) hMi (by omega) (by omega)) (by rw [← hR]; rfl)
      exact loop_39 M 0 σ (by omega) hM rfl
    · skip
      refine r_bipush C dX11_passes_27 bp_m3 ?_
      exact hE _ _ _ _ dX11_passes_29 (by rw [mPass, if_neg c_8, if_pos c_24]; exact And.intro rfl rfl)
  · skip
    refine r_iconst C dX11_passes_11 ic_m1 ?_
    exact hE _ _ _ _ dX11_passes_12 (by rw [mPass, if_pos c_8]; exact And.intro rfl rfl)
