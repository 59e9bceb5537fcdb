/-! ===== copies of whole houses ===== -/
theorem cpB_P {v : mV} {h o i : Nat} (hd : h + 46 ≤ o ∨ o + 46 ≤ h) (hi : i < 8) : cpRow (cpRow (cpB v h o 5 (2 * i)) (h + (5 + 2 * i)) (o + (5 + 2 * i))) (h + (5 + 2 * i) + 1) (o + (5 + 2 * i) + 1) = cpB v h o 5 (2 * (i + 1)) := by
  rw [cpB_row hd (by omega) rfl]
  exact cpB_row (a := 5) (m := 2 * i + 1) hd (by omega) rfl
theorem cpB_R {v : mV} {h o i : Nat} (hd : h + 46 ≤ o ∨ o + 46 ≤ h) (hi : i < 3) : cpRow (cpRow (cpRow (cpB v h o 5 (16 + 3 * i)) (h + (21 + 3 * i)) (o + (21 + 3 * i))) (h + (21 + 3 * i) + 1) (o + (21 + 3 * i) + 1)) (h + (21 + 3 * i) + 2) (o + (21 + 3 * i) + 2) = cpB v h o 5 (16 + 3 * (i + 1)) := by
  rw [show h + (21 + 3 * i) = h + (5 + (16 + 3 * i)) by omega, show o + (21 + 3 * i) = o + (5 + (16 + 3 * i)) by omega]
  rw [cpB_row hd (by omega) rfl]
  rw [show h + (5 + (16 + 3 * i)) + 1 = h + (5 + (16 + 3 * i + 1)) by omega, show o + (5 + (16 + 3 * i)) + 1 = o + (5 + (16 + 3 * i + 1)) by omega]
  rw [cpB_row hd (by omega) rfl]
  rw [show h + (5 + (16 + 3 * i)) + 2 = h + (5 + (16 + 3 * i + 1 + 1)) by omega, show o + (5 + (16 + 3 * i)) + 2 = o + (5 + (16 + 3 * i + 1 + 1)) by omega]
  rw [cpB_row hd (by omega) rfl]
  rw [show 16 + 3 * i + 1 + 1 + 1 = 16 + 3 * (i + 1) by omega]
theorem cpB_S {v : mV} {h o i : Nat} (hd : h + 46 ≤ o ∨ o + 46 ≤ h) (hi : i < 6) : cpRow (cpB v h o 5 (25 + i)) (h + (30 + i)) (o + (30 + i)) = cpB v h o 5 (25 + (i + 1)) := by
  rw [show h + (30 + i) = h + (5 + (25 + i)) by omega, show o + (30 + i) = o + (5 + (25 + i)) by omega]
  exact cpB_row hd (by omega) rfl
/-- the state behind i incidents -/
def cpI (v : mV) (h o i : Nat) : mV := fun q => if h + 38 ≤ q ∧ q < h + (38 + i) then v (q - h + o) else cpB v h o 1 35 q
theorem cpI_row {v : mV} {h o i : Nat} (hd : h + 46 ≤ o ∨ o + 46 ≤ h) (hi : i < 8) : cpRow (cpI v h o i) (h + (38 + i)) (o + (38 + i)) = cpI v h o (i + 1) := by
  funext q
  by_cases hq : q = h + (38 + i)
  · subst hq
    rw [cpRow_r]
    unfold cpI
    rw [if_neg (by omega), if_pos (by omega), cpB_out (by omega)]
    congr 1
    omega
  · rw [cpRow_o hq]
    unfold cpI
    by_cases h1 : h + 38 ≤ q ∧ q < h + (38 + i)
    · rw [if_pos h1, if_pos (by omega)]
    · rw [if_neg h1, if_neg (by omega)]
theorem cpI_src {v : mV} {h o i q : Nat} (hd : h + 46 ≤ o ∨ o + 46 ≤ h) (hi : i ≤ 8) (h1 : o ≤ q) (h2 : q < o + 46) : cpI v h o i q = v q := by
  unfold cpI
  rw [if_neg (by omega), cpB_out (by omega)]
theorem cpB_conv {g : mG} {tpl : mT} {b n h o : Nat} {v w : mV} {lo hi : Nat} (hh : ∀ j, lo ≤ j → j < hi → va_at g.1 vwCl (b + (h + j), tpl (h + j) (w (h + j))) = va_at g.1 vwCl (b + (h + j), tpl (h + j) (v (o + j)))) (ho : ∀ q, q < h + lo ∨ h + hi ≤ q → w q = v q) (hlh : lo ≤ hi) : ∀ k, k < n → va_at g.1 vwCl (b + k, tpl k (w k)) = va_at g.1 vwCl (b + k, tpl k (cpB v h o lo (hi - lo) k)) := by
  intro k _
  by_cases hk : h + lo ≤ k ∧ k < h + hi
  · obtain ⟨j, rfl⟩ : ∃ j, k = h + j := ⟨k - h, by omega⟩
    rw [cpB_in (by omega) (by omega)]
    exact hh j (by omega) (by omega)
  · rw [cpB_out (by omega), ho k (by omega)]
set_option maxRecDepth 100000 in
set_option maxHeartbeats 4000000 in
theorem c_X5_copyFrom {g : mG} {l : Launch} {tpl : mT} {b n : Nat} {v : mV} (h o : Nat) (t : isT g tpl b n h) (u : isT g tpl b n o) (hd : h + 46 ≤ o ∨ o + 46 ≤ h) : CT g l tpl b n yX5_copyFrom cX5_copyFrom 3 none rm_X5_copyFrom [.ref (b + (h + 1)), .ref (b + (o + 1))] v (pV (cpB v h o 1 35)) := by
  refine CT.introV [some (.ref (b + (h + 1))), some (.ref (b + (o + 1))), none] (own := RX5) (by decide +kernel) rfl rfl rfl rfl ?_
  intro p e s m args below meth c Q C hE
  rw [← cpB_0 v h o 5]
  refine r_iconst C dX5_copyFrom_0 ic_0 ?_
  refine r_istore_n C dX5_copyFrom_1 rfl rfl ?_
  have loop_2 : ∀ (r : Nat) (i : Nat), (i + r = 8) → WM g p l e rm_X5_copyFrom s m args below meth c Q tpl b n (cpB v h o 5 (2 * i)) 2 [some (.ref (b + (h + 1))), some (.ref (b + (o + 1))), some (.int (nI i))] [] := by
    intro r
    induction r with
    | zero =>
      intro i hi
      refine r_iload_n C dX5_copyFrom_2 rfl ?_
      refine r_aload_n C dX5_copyFrom_3 rfl ?_
      refine gf_X5_11 C dX5_copyFrom_4 t.1 (t.k (by decide)) ?_
      refine r_alen C dX5_copyFrom_7 t.2.1 rfl (t.k (by decide)) kn_8.symm ?_
      refine r_icmp_ge (tgt := 41) C dX5_copyFrom_8 rfl (fun c_8 => ?_) (fun c_8 => ?_)
      · skip
        rw [show i = 8 by omega]
        refine r_iconst C dX5_copyFrom_41 ic_0 ?_
        refine r_istore_n C dX5_copyFrom_42 rfl rfl ?_
        have loop_43 : ∀ (r : Nat) (i : Nat), (i + r = 3) → WM g p l e rm_X5_copyFrom s m args below meth c Q tpl b n (cpB v h o 5 (16 + 3 * i)) 43 [some (.ref (b + (h + 1))), some (.ref (b + (o + 1))), some (.int (nI i))] [] := by
          intro r
          induction r with
          | zero =>
            intro i hi
            refine r_iload_n C dX5_copyFrom_43 rfl ?_
            refine r_aload_n C dX5_copyFrom_44 rfl ?_
            refine gf_X5_19 C dX5_copyFrom_45 t.1 (t.k (by decide)) ?_
            refine r_alen C dX5_copyFrom_48 t.2.2.1 rfl (t.k (by decide)) kn_3.symm ?_
            refine r_icmp_ge (tgt := 82) C dX5_copyFrom_49 rfl (fun c_49 => ?_) (fun c_49 => ?_)
            · skip
              rw [show i = 3 by omega]
              refine r_iconst C dX5_copyFrom_82 ic_0 ?_
              refine r_istore_n C dX5_copyFrom_83 rfl rfl ?_
              have loop_84 : ∀ (r : Nat) (i : Nat), (i + r = 6) → WM g p l e rm_X5_copyFrom s m args below meth c Q tpl b n (cpB v h o 5 (25 + i)) 84 [some (.ref (b + (h + 1))), some (.ref (b + (o + 1))), some (.int (nI i))] [] := by
                intro r
                induction r with
                | zero =>
                  intro i hi
                  refine r_iload_n C dX5_copyFrom_84 rfl ?_
                  refine r_aload_n C dX5_copyFrom_85 rfl ?_
                  refine gf_X5_25 C dX5_copyFrom_86 t.1 (t.k (by decide)) ?_
                  refine r_alen C dX5_copyFrom_89 t.2.2.2.1 rfl (t.k (by decide)) kn_6.symm ?_
                  refine r_icmp_ge (tgt := 123) C dX5_copyFrom_90 rfl (fun c_90 => ?_) (fun c_90 => ?_)
                  · skip
                    rw [show i = 6 by omega]
                    refine r_aload_n C dX5_copyFrom_123 rfl ?_
                    refine r_aload_n C dX5_copyFrom_124 rfl ?_
                    refine gf_X5_42 C dX5_copyFrom_125 u.1 (u.k (by decide)) ?_
                    refine pf_X5_42 C dX5_copyFrom_128 t.1 (t.k (by decide)) ?_
                    refine r_aload_n C dX5_copyFrom_131 rfl ?_
                    refine r_aload_n C dX5_copyFrom_132 rfl ?_
                    refine gf_X5_46 C dX5_copyFrom_133 u.1 (u.k (by decide)) ?_
                    refine pf_X5_46 C dX5_copyFrom_136 t.1 (t.k (by decide)) ?_
                    refine r_aload_n C dX5_copyFrom_139 rfl ?_
                    refine r_aload_n C dX5_copyFrom_140 rfl ?_
                    refine gf_X5_49 C dX5_copyFrom_141 u.1 (u.k (by decide)) ?_
                    refine pf_X5_49 C dX5_copyFrom_144 t.1 (t.k (by decide)) ?_
                    refine WM_conv (v1 := cpB v h o 1 35) (cpB_conv (lo := 1) (hi := 36) (fun j h1 h2 => ?_) (fun q hq => ?_) (by omega)) ?_
                    · by_cases e5 : 5 ≤ j
                      · rw [u2_o (by omega), u2_o (by omega), u2_o (by omega), cpB_in (by omega) (by omega)]
                      · by_cases e1 : j = 1
                        · subst e1
                          rw [t.1]
                          simp (disch := omega) only [u2_r, u2_o, cpB_out]
                          all_goals rfl
                        · rcases (show j = 2 ∨ j = 3 ∨ j = 4 by omega) with rfl | rfl | rfl
                          · rw [t.2.1]
                          · rw [t.2.2.1]
                          · rw [t.2.2.2.1]
                    · rw [u2_o (by omega), u2_o (by omega), u2_o (by omega), cpB_out (by omega)]
                    exact hE _ _ _ dX5_copyFrom_147 (by first | with_reducible exact ⟨rfl, rfl⟩ | simp [pV, c_90])
                  · exact absurd c_90 (nI_nlt (a := i) (b := 6) (by omega) (by omega))
                | succ r ih_84 =>
                  intro i hi
                  refine r_iload_n C dX5_copyFrom_84 rfl ?_
                  refine r_aload_n C dX5_copyFrom_85 rfl ?_
                  refine gf_X5_25 C dX5_copyFrom_86 t.1 (t.k (by decide)) ?_
                  refine r_alen C dX5_copyFrom_89 t.2.2.2.1 rfl (t.k (by decide)) kn_6.symm ?_
                  refine r_icmp_ge (tgt := 123) C dX5_copyFrom_90 rfl (fun c_90 => ?_) (fun c_90 => ?_)
                  · exact absurd (nI_lt (a := i) (b := 6) (by omega) (by omega)) c_90
                  · skip
                    refine r_iload_n C dX5_copyFrom_93 rfl ?_
                    refine r_aload_n C dX5_copyFrom_94 rfl ?_
                    refine gf_X5_25 C dX5_copyFrom_95 u.1 (u.k (by decide)) ?_
                    refine r_alen C dX5_copyFrom_98 u.2.2.2.1 rfl (u.k (by decide)) kn_6.symm ?_
                    refine r_icmp_ge (tgt := 123) C dX5_copyFrom_99 rfl (fun c_99 => ?_) (fun c_99 => ?_)
                    · exact absurd (nI_lt (a := i) (b := 6) (by omega) (by omega)) c_99
                    · skip
                      refine r_aload_n C dX5_copyFrom_102 rfl ?_
                      refine gf_X5_25 C dX5_copyFrom_103 t.1 (t.k (by decide)) ?_
                      refine r_iload_n C dX5_copyFrom_106 rfl ?_
                      refine r_aald (t0 := 6) C dX5_copyFrom_107 t.2.2.2.1 rfl (t.k (by decide)) (j := i) rfl (by omega) rfl rfl ?_
                      refine r_aload_n C dX5_copyFrom_108 rfl ?_
                      refine gf_X5_25 C dX5_copyFrom_109 u.1 (u.k (by decide)) ?_
                      refine r_iload_n C dX5_copyFrom_112 rfl ?_
                      refine r_aald (t0 := 6) C dX5_copyFrom_113 u.2.2.2.1 rfl (u.k (by decide)) (j := i) rfl (by omega) rfl rfl ?_
                      refine cvV_X5_39 C dX5_copyFrom_114 (c_X8_copyFrom _ _ (t.2.2.2.2.2.2.1 i (by omega)) (t.k (by omega)) (u.2.2.2.2.2.2.1 i (by omega)) (u.k (by omega))) (t.2.2.2.2.2.2.1 i (by omega)) (t.k (by omega)) ⟨rfl, rfl⟩ rfl rfl rfl ?_
                      rw [cpB_S hd (by omega)]
                      refine r_iinc C dX5_copyFrom_117 rfl (nI_inc _) rfl ?_
                      refine r_goto (tgt := 84) C dX5_copyFrom_120 rfl ?_
                      exact ih_84 (i + 1) (by omega)
              exact loop_84 6 0 rfl
            · exact absurd c_49 (nI_nlt (a := i) (b := 3) (by omega) (by omega))
          | succ r ih_43 =>
            intro i hi
            refine r_iload_n C dX5_copyFrom_43 rfl ?_
            refine r_aload_n C dX5_copyFrom_44 rfl ?_
            refine gf_X5_19 C dX5_copyFrom_45 t.1 (t.k (by decide)) ?_
            refine r_alen C dX5_copyFrom_48 t.2.2.1 rfl (t.k (by decide)) kn_3.symm ?_
            refine r_icmp_ge (tgt := 82) C dX5_copyFrom_49 rfl (fun c_49 => ?_) (fun c_49 => ?_)
            · exact absurd (nI_lt (a := i) (b := 3) (by omega) (by omega)) c_49
            · skip
              refine r_iload_n C dX5_copyFrom_52 rfl ?_
              refine r_aload_n C dX5_copyFrom_53 rfl ?_
              refine gf_X5_19 C dX5_copyFrom_54 u.1 (u.k (by decide)) ?_
              refine r_alen C dX5_copyFrom_57 u.2.2.1 rfl (u.k (by decide)) kn_3.symm ?_
              refine r_icmp_ge (tgt := 82) C dX5_copyFrom_58 rfl (fun c_58 => ?_) (fun c_58 => ?_)
              · exact absurd (nI_lt (a := i) (b := 3) (by omega) (by omega)) c_58
              · skip
                refine r_aload_n C dX5_copyFrom_61 rfl ?_
                refine gf_X5_19 C dX5_copyFrom_62 t.1 (t.k (by decide)) ?_
                refine r_iload_n C dX5_copyFrom_65 rfl ?_
                refine r_aald (t0 := 5) C dX5_copyFrom_66 t.2.2.1 rfl (t.k (by decide)) (j := i) rfl (by omega) rfl rfl ?_
                refine r_aload_n C dX5_copyFrom_67 rfl ?_
                refine gf_X5_19 C dX5_copyFrom_68 u.1 (u.k (by decide)) ?_
                refine r_iload_n C dX5_copyFrom_71 rfl ?_
                refine r_aald (t0 := 5) C dX5_copyFrom_72 u.2.2.1 rfl (u.k (by decide)) (j := i) rfl (by omega) rfl rfl ?_
                refine cvV_X5_36 C dX5_copyFrom_73 (c_X4_copyFrom _ _ (t.2.2.2.2.2.1 i (by omega)) (u.2.2.2.2.2.1 i (by omega)) (by omega)) (t.2.2.2.2.2.1 i (by omega)).1 (t.2.2.2.2.2.1 i (by omega)).k ⟨rfl, rfl⟩ rfl rfl rfl ?_
                rw [cpB_R hd (by omega)]
                refine r_iinc C dX5_copyFrom_76 rfl (nI_inc _) rfl ?_
                refine r_goto (tgt := 43) C dX5_copyFrom_79 rfl ?_
                exact ih_43 (i + 1) (by omega)
        exact loop_43 3 0 rfl
      · exact absurd c_8 (nI_nlt (a := i) (b := 8) (by omega) (by omega))
    | succ r ih_2 =>
      intro i hi
      refine r_iload_n C dX5_copyFrom_2 rfl ?_
      refine r_aload_n C dX5_copyFrom_3 rfl ?_
      refine gf_X5_11 C dX5_copyFrom_4 t.1 (t.k (by decide)) ?_
      refine r_alen C dX5_copyFrom_7 t.2.1 rfl (t.k (by decide)) kn_8.symm ?_
      refine r_icmp_ge (tgt := 41) C dX5_copyFrom_8 rfl (fun c_8 => ?_) (fun c_8 => ?_)
      · exact absurd (nI_lt (a := i) (b := 8) (by omega) (by omega)) c_8
      · skip
        refine r_iload_n C dX5_copyFrom_11 rfl ?_
        refine r_aload_n C dX5_copyFrom_12 rfl ?_
        refine gf_X5_11 C dX5_copyFrom_13 u.1 (u.k (by decide)) ?_
        refine r_alen C dX5_copyFrom_16 u.2.1 rfl (u.k (by decide)) kn_8.symm ?_
        refine r_icmp_ge (tgt := 41) C dX5_copyFrom_17 rfl (fun c_17 => ?_) (fun c_17 => ?_)
        · exact absurd (nI_lt (a := i) (b := 8) (by omega) (by omega)) c_17
        · skip
          refine r_aload_n C dX5_copyFrom_20 rfl ?_
          refine gf_X5_11 C dX5_copyFrom_21 t.1 (t.k (by decide)) ?_
          refine r_iload_n C dX5_copyFrom_24 rfl ?_
          refine r_aald (t0 := 4) C dX5_copyFrom_25 t.2.1 rfl (t.k (by decide)) (j := i) rfl (by omega) rfl rfl ?_
          refine r_aload_n C dX5_copyFrom_26 rfl ?_
          refine gf_X5_11 C dX5_copyFrom_27 u.1 (u.k (by decide)) ?_
          refine r_iload_n C dX5_copyFrom_30 rfl ?_
          refine r_aald (t0 := 4) C dX5_copyFrom_31 u.2.1 rfl (u.k (by decide)) (j := i) rfl (by omega) rfl rfl ?_
          refine cvV_X5_32 C dX5_copyFrom_32 (c_X3_copyFrom _ _ (t.2.2.2.2.1 i (by omega)) (u.2.2.2.2.1 i (by omega)) (by omega)) (t.2.2.2.2.1 i (by omega)).1 (t.2.2.2.2.1 i (by omega)).k ⟨rfl, rfl⟩ rfl rfl rfl ?_
          rw [cpB_P hd (by omega)]
          refine r_iinc C dX5_copyFrom_35 rfl (nI_inc _) rfl ?_
          refine r_goto (tgt := 2) C dX5_copyFrom_38 rfl ?_
          exact ih_2 (i + 1) (by omega)
  exact loop_2 8 0 rfl
