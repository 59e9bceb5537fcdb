set_option maxRecDepth 100000 in
set_option maxHeartbeats 4000000 in
theorem c_X1_takeAlert {g : mG} {l : Launch} {tpl : mT} {b n : Nat} {v : mV} (h : Nat) (hh : isH g tpl b n h) (q : Nat) (hq : v (h + 1) 5 = nI q) (hq6 : q ≤ 6) (x y : Int32) : CT g l tpl b n yX1_takeAlert cX1_takeAlert 5 (some .int) rm_X1_takeAlert [.ref (b + h), .int x, .int y] v (pI (hsAlert v h x y).1 (hsAlert v h x y).2) := by
  refine CT.introI [some (.ref (b + h)), some (.int x), some (.int y), none, none] (own := RX1) (by decide +kernel) rfl rfl rfl rfl ?_
  intro p e s m args below meth c Q C hE
  refine r_iload_n C dX1_takeAlert_0 rfl ?_
  refine r_if_lt (tgt := 19) C dX1_takeAlert_1 rfl (fun c_1 => ?_) (fun c_1 => ?_)
  · skip
    refine r_iconst C dX1_takeAlert_19 ic_m1 ?_
    exact hE _ _ _ _ dX1_takeAlert_20 (by simp [pI, hsAlert, c_1])
  · skip
    refine r_iload_n C dX1_takeAlert_4 rfl ?_
    refine r_bipush C dX1_takeAlert_5 bp_20 ?_
    refine r_icmp_ge (tgt := 19) C dX1_takeAlert_7 rfl (fun c_7 => ?_) (fun c_7 => ?_)
    · skip
      refine r_iconst C dX1_takeAlert_19 ic_m1 ?_
      exact hE _ _ _ _ dX1_takeAlert_20 (by simp [pI, hsAlert, c_1, c_7])
    · skip
      refine r_iload_n C dX1_takeAlert_10 rfl ?_
      refine r_if_lt (tgt := 19) C dX1_takeAlert_11 rfl (fun c_11 => ?_) (fun c_11 => ?_)
      · skip
        refine r_iconst C dX1_takeAlert_19 ic_m1 ?_
        exact hE _ _ _ _ dX1_takeAlert_20 (by simp [pI, hsAlert, c_1, c_7, c_11])
      · skip
        refine r_iload_n C dX1_takeAlert_14 rfl ?_
        refine r_iconst C dX1_takeAlert_15 ic_2 ?_
        refine r_icmp_le (tgt := 21) C dX1_takeAlert_16 rfl (fun c_16 => ?_) (fun c_16 => ?_)
        · skip
          have hA : hsAlert v h x y = hsFoldLp v h x y 8 0 := by simp [hsAlert, c_1, c_7, c_11, c_16]
          refine r_iconst C dX1_takeAlert_21 ic_0 ?_
          refine r_istore_n C dX1_takeAlert_22 rfl rfl ?_
          have loop_23 : ∀ (r : Nat) (i : Nat) (z : Option Value), (i + r = 8) → (hsFoldLp v h x y r i = hsFoldLp v h x y 8 0) → WM g p l e rm_X1_takeAlert s m args below meth c Q tpl b n v 23 [some (.ref (b + h)), some (.int x), some (.int y), some (.int (nI i)), z] [] := by
            intro r
            induction r with
            | zero =>
              intro i z hi hR
              refine r_iload_n C dX1_takeAlert_23 rfl ?_
              refine r_aload_n C dX1_takeAlert_24 rfl ?_
              refine gf_X1_20 C dX1_takeAlert_25 hh.1 hh.k0 ?_
              refine r_alen C dX1_takeAlert_28 hh.2.2.1 rfl (hh.k (by decide)) kn_8.symm ?_
              refine r_icmp_ge (tgt := 109) C dX1_takeAlert_29 rfl (fun c_29 => ?_) (fun c_29 => ?_)
              · skip
                refine r_iconst C dX1_takeAlert_109 ic_0 ?_
                refine r_istore_n C dX1_takeAlert_110 rfl rfl ?_
                have loop_111 : ∀ (r : Nat) (i2 : Nat), (i2 + r = 8) → (hsNewLp v h x y r i2 = hsFoldLp v h x y 8 0) → WM g p l e rm_X1_takeAlert s m args below meth c Q tpl b n v 111 [some (.ref (b + h)), some (.int x), some (.int y), some (.int (nI i2)), z] [] := by
                  intro r
                  induction r with
                  | zero =>
                    intro i2 hi2 hR2
                    refine r_iload_n C dX1_takeAlert_111 rfl ?_
                    refine r_aload_n C dX1_takeAlert_112 rfl ?_
                    refine gf_X1_20 C dX1_takeAlert_113 hh.1 hh.k0 ?_
                    refine r_alen C dX1_takeAlert_116 hh.2.2.1 rfl (hh.k (by decide)) kn_8.symm ?_
                    refine r_icmp_ge (tgt := 189) C dX1_takeAlert_117 rfl (fun c_117 => ?_) (fun c_117 => ?_)
                    · skip
                      refine r_bipush C dX1_takeAlert_189 bp_m3 ?_
                      exact hE _ _ _ _ dX1_takeAlert_191 (by rw [hA, ← hR2]; simp [pI, hsNewLp, c_117])
                    · exact absurd c_117 (nI_nlt (a := i2) (b := 8) (by omega) (by omega))
                  | succ r ih_111 =>
                    intro i2 hi2 hR2
                    refine r_iload_n C dX1_takeAlert_111 rfl ?_
                    refine r_aload_n C dX1_takeAlert_112 rfl ?_
                    refine gf_X1_20 C dX1_takeAlert_113 hh.1 hh.k0 ?_
                    refine r_alen C dX1_takeAlert_116 hh.2.2.1 rfl (hh.k (by decide)) kn_8.symm ?_
                    refine r_icmp_ge (tgt := 189) C dX1_takeAlert_117 rfl (fun c_117 => ?_) (fun c_117 => ?_)
                    · exact absurd (nI_lt (a := i2) (b := 8) (by omega) (by omega)) c_117
                    · skip
                      refine r_aload_n C dX1_takeAlert_120 rfl ?_
                      refine gf_X1_20 C dX1_takeAlert_121 hh.1 hh.k0 ?_
                      refine r_iload_n C dX1_takeAlert_124 rfl ?_
                      refine r_aald (t0 := 3) C dX1_takeAlert_125 hh.2.2.1 rfl (hh.k (by decide)) (j := i2) rfl (by omega) rfl rfl ?_
                      refine gf_X1_52 C dX1_takeAlert_126 (hh.2.2.2.2.1 i2 (by omega)) (hh.k (by omega)) ?_
                      refine r_if_ne (tgt := 183) C dX1_takeAlert_129 rfl (fun c_129 => ?_) (fun c_129 => ?_)
                      · skip
                        refine r_iinc C dX1_takeAlert_183 rfl (nI_inc _) rfl ?_
                        refine r_goto (tgt := 111) C dX1_takeAlert_186 rfl ?_
                        exact ih_111 (i2 + 1) (by omega) (by rw [← hR2]; simp [hsNewLp, c_117, c_129])
                      · skip
                        refine r_aload_n C dX1_takeAlert_132 rfl ?_
                        refine gf_X1_20 C dX1_takeAlert_133 hh.1 hh.k0 ?_
                        refine r_iload_n C dX1_takeAlert_136 rfl ?_
                        refine r_aald (t0 := 3) C dX1_takeAlert_137 hh.2.2.1 rfl (hh.k (by decide)) (j := i2) rfl (by omega) rfl rfl ?_
                        refine r_iload_n C dX1_takeAlert_138 rfl ?_
                        refine r_iload_n C dX1_takeAlert_139 rfl ?_
                        refine r_aload_n C dX1_takeAlert_140 rfl ?_
                        refine gf_X1_49 C dX1_takeAlert_141 hh.1 hh.k0 ?_
                        refine cvV_X1_91 C dX1_takeAlert_144 (c_X2_makeNew _ (hh.2.2.2.2.1 i2 (by omega)) (hh.k (by omega)) _ _ _) (hh.2.2.2.2.1 i2 (by omega)) (hh.k (by omega)) ⟨rfl, rfl⟩ rfl rfl rfl ?_
                        refine r_aload_n C dX1_takeAlert_147 rfl ?_
                        refine gf_X1_27 C dX1_takeAlert_148 hh.1 hh.k0 ?_
                        refine r_dup C dX1_takeAlert_151 rfl ?_
                        refine gf_X1_95 C dX1_takeAlert_152 hh.2.2.2.1 (hh.k (by decide)) ?_
                        refine r_iconst C dX1_takeAlert_155 ic_1 ?_
                        refine r_iadd C dX1_takeAlert_156 ?_
                        refine pf_X1_95 C dX1_takeAlert_157 hh.2.2.2.1 (hh.k (by decide)) ?_
                        refine r_aload_n C dX1_takeAlert_160 rfl ?_
                        refine r_aload_n C dX1_takeAlert_161 rfl ?_
                        refine gf_X1_20 C dX1_takeAlert_162 hh.1 hh.k0 ?_
                        refine r_iload_n C dX1_takeAlert_165 rfl ?_
                        refine r_aald (t0 := 3) C dX1_takeAlert_166 hh.2.2.1 rfl (hh.k (by decide)) (j := i2) rfl (by omega) rfl rfl ?_
                        refine r_aload_n C dX1_takeAlert_167 rfl ?_
                        refine gf_X1_12 C dX1_takeAlert_168 hh.1 hh.k0 ?_
                        refine r_aload_n C dX1_takeAlert_171 rfl ?_
                        refine gf_X1_49 C dX1_takeAlert_172 hh.1 hh.k0 ?_
                        refine cvI_X1_83 C dX1_takeAlert_175 (c_X5_regionAt h hh.2.1 _) hh.2.1.1 (hh.2.1.k (by decide)) ⟨rfl, rfl⟩ rfl rfl rfl ?_
                        refine cvV_X1_87 C dX1_takeAlert_178 (c_X1_page h hh i2 (by omega) q (by rw [u2_o (by omega), inNew_o (by omega)]; exact hq) hq6 _) hh.1 hh.k0 ⟨rfl, rfl⟩ rfl rfl rfl ?_
                        refine r_iload_n C dX1_takeAlert_181 rfl ?_
                        exact hE _ _ _ _ dX1_takeAlert_182 (by rw [hA, ← hR2]; simp (disch := omega) [pI, hsNewLp, c_117, c_129, inNew_o, u2_o])
                exact loop_111 8 0 rfl hR
              · exact absurd c_29 (nI_nlt (a := i) (b := 8) (by omega) (by omega))
            | succ r ih_23 =>
              intro i z hi hR
              refine r_iload_n C dX1_takeAlert_23 rfl ?_
              refine r_aload_n C dX1_takeAlert_24 rfl ?_
              refine gf_X1_20 C dX1_takeAlert_25 hh.1 hh.k0 ?_
              refine r_alen C dX1_takeAlert_28 hh.2.2.1 rfl (hh.k (by decide)) kn_8.symm ?_
              refine r_icmp_ge (tgt := 109) C dX1_takeAlert_29 rfl (fun c_29 => ?_) (fun c_29 => ?_)
              · exact absurd (nI_lt (a := i) (b := 8) (by omega) (by omega)) c_29
              · skip
                refine r_aload_n C dX1_takeAlert_32 rfl ?_
                refine gf_X1_20 C dX1_takeAlert_33 hh.1 hh.k0 ?_
                refine r_iload_n C dX1_takeAlert_36 rfl ?_
                refine r_aald (t0 := 3) C dX1_takeAlert_37 hh.2.2.1 rfl (hh.k (by decide)) (j := i) rfl (by omega) rfl rfl ?_
                refine r_astore C dX1_takeAlert_38 rfl rfl ?_
                refine r_aload C dX1_takeAlert_40 rfl ?_
                refine gf_X1_52 C dX1_takeAlert_42 (hh.2.2.2.2.1 i (by omega)) (hh.k (by omega)) ?_
                refine r_if_eq (tgt := 103) C dX1_takeAlert_45 rfl (fun c_45 => ?_) (fun c_45 => ?_)
                · skip
                  refine r_iinc C dX1_takeAlert_103 rfl (nI_inc _) rfl ?_
                  refine r_goto (tgt := 23) C dX1_takeAlert_106 rfl ?_
                  exact ih_23 (i + 1) _ (by omega) (by rw [← hR]; simp [hsFoldLp, c_29, c_45])
                · skip
                  refine r_aload C dX1_takeAlert_48 rfl ?_
                  refine gf_X1_73 C dX1_takeAlert_50 (hh.2.2.2.2.1 i (by omega)) (hh.k (by omega)) ?_
                  refine r_iload_n C dX1_takeAlert_53 rfl ?_
                  refine r_icmp_ne (tgt := 103) C dX1_takeAlert_54 rfl (fun c_54 => ?_) (fun c_54 => ?_)
                  · skip
                    refine r_iinc C dX1_takeAlert_103 rfl (nI_inc _) rfl ?_
                    refine r_goto (tgt := 23) C dX1_takeAlert_106 rfl ?_
                    exact ih_23 (i + 1) _ (by omega) (by rw [← hR]; simp [hsFoldLp, c_29, c_45, c_54])
                  · skip
                    refine r_aload_n C dX1_takeAlert_57 rfl ?_
                    refine gf_X1_49 C dX1_takeAlert_58 hh.1 hh.k0 ?_
                    refine r_aload C dX1_takeAlert_61 rfl ?_
                    refine gf_X1_76 C dX1_takeAlert_63 (hh.2.2.2.2.1 i (by omega)) (hh.k (by omega)) ?_
                    refine r_isub C dX1_takeAlert_66 ?_
                    refine r_aload_n C dX1_takeAlert_67 rfl ?_
                    refine gf_X1_35 C dX1_takeAlert_68 hh.1 hh.k0 ?_
                    refine r_icmp_gt (tgt := 103) C dX1_takeAlert_71 rfl (fun c_71 => ?_) (fun c_71 => ?_)
                    · skip
                      refine r_iinc C dX1_takeAlert_103 rfl (nI_inc _) rfl ?_
                      refine r_goto (tgt := 23) C dX1_takeAlert_106 rfl ?_
                      exact ih_23 (i + 1) _ (by omega) (by rw [← hR]; simp [hsFoldLp, c_29, c_45, c_54, c_71])
                    · skip
                      refine r_aload_n C dX1_takeAlert_74 rfl ?_
                      refine r_aload C dX1_takeAlert_75 rfl ?_
                      refine r_iload_n C dX1_takeAlert_77 rfl ?_
                      refine cvI_X1_79 C dX1_takeAlert_78 (c_X1_fold h hh i (by omega) _) hh.1 hh.k0 ⟨rfl, rfl⟩ rfl rfl rfl ?_
                      refine r_if_eq (tgt := 101) C dX1_takeAlert_81 rfl (fun c_81 => ?_) (fun c_81 => ?_)
                      · skip
                        refine r_iload_n C dX1_takeAlert_101 rfl ?_
                        exact hE _ _ _ _ dX1_takeAlert_102 (by rw [hA, ← hR]; simp [pI, hsFoldLp, c_29, c_45, c_54, c_71, c_81, hsFold_h])
                      · skip
                        refine r_aload_n C dX1_takeAlert_84 rfl ?_
                        refine r_aload C dX1_takeAlert_85 rfl ?_
                        refine r_aload_n C dX1_takeAlert_87 rfl ?_
                        refine gf_X1_12 C dX1_takeAlert_88 hh.1 hh.k0 ?_
                        refine r_aload_n C dX1_takeAlert_91 rfl ?_
                        refine gf_X1_49 C dX1_takeAlert_92 hh.1 hh.k0 ?_
                        refine cvI_X1_83 C dX1_takeAlert_95 (c_X5_regionAt h hh.2.1 _) hh.2.1.1 (hh.2.1.k (by decide)) ⟨rfl, rfl⟩ rfl rfl rfl ?_
                        refine cvV_X1_87 C dX1_takeAlert_98 (c_X1_page h hh i (by omega) q (by rw [hsFold_1]; exact hq) hq6 _) hh.1 hh.k0 ⟨rfl, rfl⟩ rfl rfl rfl ?_
                        refine r_iload_n C dX1_takeAlert_101 rfl ?_
                        exact hE _ _ _ _ dX1_takeAlert_102 (by rw [hA, ← hR]; simp [pI, hsFoldLp, c_29, c_45, c_54, c_71, c_81, hsFold_h])
          exact loop_23 8 0 none rfl rfl
        · skip
          refine r_iconst C dX1_takeAlert_19 ic_m1 ?_
          exact hE _ _ _ _ dX1_takeAlert_20 (by simp [pI, hsAlert, c_1, c_7, c_11, c_16])
set_option maxRecDepth 100000 in
set_option maxHeartbeats 4000000 in
theorem c_X1_letPass {g : mG} {l : Launch} {tpl : mT} {b n : Nat} {v : mV} (h : Nat) (hh : isH g tpl b n h) (q : Nat) (hq : v (h + 1) 5 = nI q) (hq6 : q ≤ 6) (x : Int32) : CT g l tpl b n yX1_letPass cX1_letPass 6 (some .int) rm_X1_letPass [.ref (b + h), .int x] v (pI (hsPass v h x).1 (hsPass v h x).2) := by
  refine CT.introI [some (.ref (b + h)), some (.int x), none, none, none, none] (own := RX1) (by decide +kernel) rfl rfl rfl rfl ?_
  intro p e s m args below meth c Q C hE
  refine r_iload_n C dX1_letPass_0 rfl ?_
  refine r_iconst C dX1_letPass_1 ic_1 ?_
  refine r_icmp_lt (tgt := 12) C dX1_letPass_2 rfl (fun c_2 => ?_) (fun c_2 => ?_)
  · skip
    refine r_iconst C dX1_letPass_12 ic_m1 ?_
    exact hE _ _ _ _ dX1_letPass_13 (by simp [pI, hsPass, c_2])
  · skip
    refine r_iload_n C dX1_letPass_5 rfl ?_
    refine r_sipush C dX1_letPass_6 sp_600 ?_
    refine r_icmp_le (tgt := 14) C dX1_letPass_9 rfl (fun c_9 => ?_) (fun c_9 => ?_)
    · skip
      refine r_aload_n C dX1_letPass_14 rfl ?_
      refine gf_X1_49 C dX1_letPass_15 hh.1 hh.k0 ?_
      refine r_iload_n C dX1_letPass_18 rfl ?_
      refine r_iadd C dX1_letPass_19 ?_
      refine r_sipush C dX1_letPass_20 sp_30000 ?_
      refine r_icmp_le (tgt := 29) C dX1_letPass_23 rfl (fun c_23 => ?_) (fun c_23 => ?_)
      · skip
        obtain ⟨M, hM, rfl⟩ : ∃ M : Nat, M ≤ 600 ∧ x = nI M := nI_of2 (n := 600) (M := 600) (by decide +kernel) (fun z => c_2 (Int32.lt_trans z (by decide))) (Int32.not_lt.mp c_9)
        have nM : (nI M).toNatClampNeg = M := nI_clamp (by omega)
        have hA : hsPass v h (nI M) = (hsMins h M v (h + 37) 2 - v (h + 37) 2, hsMins h M v) := by simp [hsPass, c_2, c_9, c_23, nM]
        refine r_aload_n C dX1_letPass_29 rfl ?_
        refine gf_X1_27 C dX1_letPass_30 hh.1 hh.k0 ?_
        refine gf_X1_134 C dX1_letPass_33 hh.2.2.2.1 (hh.k (by decide)) ?_
        refine r_istore_n C dX1_letPass_36 rfl rfl ?_
        refine r_iconst C dX1_letPass_37 ic_0 ?_
        refine r_istore_n C dX1_letPass_38 rfl rfl ?_
        have loop_39 : ∀ (r : Nat) (i : Nat) (w : mV) (z4 z5 : Option Value), (i + r = M) → (w (h + 1) 5 = nI q) → (hsMins h r w = hsMins h M v) → WM g p l e rm_X1_letPass s m args below meth c Q tpl b n w 39 [some (.ref (b + h)), some (.int (nI M)), some (.int (v (h + 37) 2)), some (.int (nI i)), z4, z5] [] := by
          intro r
          induction r with
          | zero =>
            intro i w z4 z5 hi hwq hR
            refine r_iload_n C dX1_letPass_39 rfl ?_
            refine r_iload_n C dX1_letPass_40 rfl ?_
            refine r_icmp_ge (tgt := 134) C dX1_letPass_41 rfl (fun c_41 => ?_) (fun c_41 => ?_)
            · skip
              refine r_aload_n C dX1_letPass_134 rfl ?_
              refine gf_X1_27 C dX1_letPass_135 hh.1 hh.k0 ?_
              refine gf_X1_134 C dX1_letPass_138 hh.2.2.2.1 (hh.k (by decide)) ?_
              refine r_iload_n C dX1_letPass_141 rfl ?_
              refine r_isub C dX1_letPass_142 ?_
              exact hE _ _ _ _ dX1_letPass_143 (by rw [hA, ← hR]; simp [pI, hsMins])
            · exact absurd c_41 (nI_nlt (by omega) (by omega))
          | succ r ih_39 =>
            intro i w z4 z5 hi hwq hR
            refine r_iload_n C dX1_letPass_39 rfl ?_
            refine r_iload_n C dX1_letPass_40 rfl ?_
            refine r_icmp_ge (tgt := 134) C dX1_letPass_41 rfl (fun c_41 => ?_) (fun c_41 => ?_)
            · exact absurd (nI_lt (by omega) (by omega)) c_41
            · skip
              refine r_aload_n C dX1_letPass_44 rfl ?_
              refine r_dup C dX1_letPass_45 rfl ?_
              refine gf_X1_49 C dX1_letPass_46 hh.1 hh.k0 ?_
              refine r_iconst C dX1_letPass_49 ic_1 ?_
              refine r_iadd C dX1_letPass_50 ?_
              refine pf_X1_49 C dX1_letPass_51 hh.1 hh.k0 ?_
              refine r_aload_n C dX1_letPass_54 rfl ?_
              refine gf_X1_12 C dX1_letPass_55 hh.1 hh.k0 ?_
              refine r_aload_n C dX1_letPass_58 rfl ?_
              refine gf_X1_49 C dX1_letPass_59 hh.1 hh.k0 ?_
              refine cvI_X1_83 C dX1_letPass_62 (c_X5_regionAt h hh.2.1 _) hh.2.1.1 (hh.2.1.k (by decide)) ⟨rfl, rfl⟩ rfl rfl rfl ?_
              rw [u2_r, upd_r]
              refine r_istore C dX1_letPass_65 rfl rfl ?_
              refine r_iconst C dX1_letPass_67 ic_0 ?_
              refine r_istore C dX1_letPass_68 rfl rfl ?_
              have loop_70 : ∀ (r : Nat) (k : Nat) (w2 : mV), (k + r = 8) → (w2 (h + 1) 5 = nI q) → (hsMinLp h (rsRegionAt (u2 w h 3 (w h 3 + 1)) h (w h 3 + 1)) r k w2 = hsMinLp h (rsRegionAt (u2 w h 3 (w h 3 + 1)) h (w h 3 + 1)) 8 0 (u2 w h 3 (w h 3 + 1))) → WM g p l e rm_X1_letPass s m args below meth c Q tpl b n w2 70 [some (.ref (b + h)), some (.int (nI M)), some (.int (v (h + 37) 2)), some (.int (nI i)), some (.int (rsRegionAt (u2 w h 3 (w h 3 + 1)) h (w h 3 + 1))), some (.int (nI k))] [] := by
                intro r
                induction r with
                | zero =>
                  intro k w2 hk hw2 hR2
                  refine r_iload C dX1_letPass_70 rfl ?_
                  refine r_aload_n C dX1_letPass_72 rfl ?_
                  refine gf_X1_20 C dX1_letPass_73 hh.1 hh.k0 ?_
                  refine r_alen C dX1_letPass_76 hh.2.2.1 rfl (hh.k (by decide)) kn_8.symm ?_
                  refine r_icmp_ge (tgt := 128) C dX1_letPass_77 rfl (fun c_77 => ?_) (fun c_77 => ?_)
                  · skip
                    refine r_iinc C dX1_letPass_128 rfl (nI_inc _) rfl ?_
                    refine r_goto (tgt := 39) C dX1_letPass_131 rfl ?_
                    exact ih_39 (i + 1) _ _ _ (by omega) hw2 (by rw [← hR, hsMins, hsMinute]; exact congrArg _ hR2)
                  · exact absurd c_77 (nI_nlt (a := k) (b := 8) (by omega) (by omega))
                | succ r ih_70 =>
                  intro k w2 hk hw2 hR2
                  refine r_iload C dX1_letPass_70 rfl ?_
                  refine r_aload_n C dX1_letPass_72 rfl ?_
                  refine gf_X1_20 C dX1_letPass_73 hh.1 hh.k0 ?_
                  refine r_alen C dX1_letPass_76 hh.2.2.1 rfl (hh.k (by decide)) kn_8.symm ?_
                  refine r_icmp_ge (tgt := 128) C dX1_letPass_77 rfl (fun c_77 => ?_) (fun c_77 => ?_)
                  · exact absurd (nI_lt (a := k) (b := 8) (by omega) (by omega)) c_77
                  · skip
                    refine r_aload_n C dX1_letPass_80 rfl ?_
                    refine gf_X1_20 C dX1_letPass_81 hh.1 hh.k0 ?_
                    refine r_iload C dX1_letPass_84 rfl ?_
                    refine r_aald (t0 := 3) C dX1_letPass_86 hh.2.2.1 rfl (hh.k (by decide)) (j := k) rfl (by omega) rfl rfl ?_
                    refine gf_X1_52 C dX1_letPass_87 (hh.2.2.2.2.1 k (by omega)) (hh.k (by omega)) ?_
                    refine r_if_eq (tgt := 122) C dX1_letPass_90 rfl (fun c_90 => ?_) (fun c_90 => ?_)
                    · skip
                      refine r_iinc C dX1_letPass_122 rfl (nI_inc _) rfl ?_
                      refine r_goto (tgt := 70) C dX1_letPass_125 rfl ?_
                      exact ih_70 (k + 1) _ (by omega) (by first | exact hw2 | (rw [hsAge_1]; exact hw2) | (rw [hsPage_1, hsAge_1]; exact hw2)) (by rw [← hR2]; simp [hsMinLp, c_77, c_90])
                    · skip
                      refine r_aload_n C dX1_letPass_93 rfl ?_
                      refine r_aload_n C dX1_letPass_94 rfl ?_
                      refine gf_X1_20 C dX1_letPass_95 hh.1 hh.k0 ?_
                      refine r_iload C dX1_letPass_98 rfl ?_
                      refine r_aald (t0 := 3) C dX1_letPass_100 hh.2.2.1 rfl (hh.k (by decide)) (j := k) rfl (by omega) rfl rfl ?_
                      refine r_iload C dX1_letPass_101 rfl ?_
                      refine cvI_X1_151 C dX1_letPass_103 (c_X1_age h hh k (by omega) _) hh.1 hh.k0 ⟨rfl, rfl⟩ rfl rfl rfl ?_
                      refine r_if_eq (tgt := 122) C dX1_letPass_106 rfl (fun c_106 => ?_) (fun c_106 => ?_)
                      · skip
                        refine r_iinc C dX1_letPass_122 rfl (nI_inc _) rfl ?_
                        refine r_goto (tgt := 70) C dX1_letPass_125 rfl ?_
                        exact ih_70 (k + 1) _ (by omega) (by first | exact hw2 | (rw [hsAge_1]; exact hw2) | (rw [hsPage_1, hsAge_1]; exact hw2)) (by rw [← hR2]; simp [hsMinLp, c_77, c_90, c_106])
                      · skip
                        refine r_aload_n C dX1_letPass_109 rfl ?_
                        refine r_aload_n C dX1_letPass_110 rfl ?_
                        refine gf_X1_20 C dX1_letPass_111 hh.1 hh.k0 ?_
                        refine r_iload C dX1_letPass_114 rfl ?_
                        refine r_aald (t0 := 3) C dX1_letPass_116 hh.2.2.1 rfl (hh.k (by decide)) (j := k) rfl (by omega) rfl rfl ?_
                        refine r_iload C dX1_letPass_117 rfl ?_
                        refine cvV_X1_87 C dX1_letPass_119 (c_X1_page h hh k (by omega) q (by rw [hsAge_1]; exact hw2) hq6 _) hh.1 hh.k0 ⟨rfl, rfl⟩ rfl rfl rfl ?_
                        refine r_iinc C dX1_letPass_122 rfl (nI_inc _) rfl ?_
                        refine r_goto (tgt := 70) C dX1_letPass_125 rfl ?_
                        exact ih_70 (k + 1) _ (by omega) (by first | exact hw2 | (rw [hsAge_1]; exact hw2) | (rw [hsPage_1, hsAge_1]; exact hw2)) (by rw [← hR2]; simp [hsMinLp, c_77, c_90, c_106])
              exact loop_70 8 0 _ rfl (by rw [u2_o (by omega)]; exact hwq) rfl
        exact loop_39 M 0 v none none (by omega) hq rfl
      · skip
        refine r_bipush C dX1_letPass_26 bp_m3 ?_
        exact hE _ _ _ _ dX1_letPass_28 (by simp [pI, hsPass, c_2, c_9, c_23])
    · skip
      refine r_iconst C dX1_letPass_12 ic_m1 ?_
      exact hE _ _ _ _ dX1_letPass_13 (by simp [pI, hsPass, c_2, c_9])
set_option maxRecDepth 100000 in
set_option maxHeartbeats 4000000 in
theorem c_X1_follow {g : mG} {l : Launch} {tpl : mT} {b n : Nat} {v : mV} (h : Nat) (hh : isH g tpl b n h) (q : Nat) (hq : v (h + 1) 5 = nI q) (hq6 : q ≤ 6) (j : Nat) (hj : j < 8) (ho : ¬ v (h + (38 + j)) 0 = 0) (M : Nat) (hM : M ≤ 600) : CT g l tpl b n yX1_follow cX1_follow 5 none rm_X1_follow [.ref (b + h), .int (nI j), .int (nI M)] v (pV (hsFols h j M v)) := by
  refine CT.introV [some (.ref (b + h)), some (.int (nI j)), some (.int (nI M)), none, none] (own := RX1) (by decide +kernel) rfl rfl rfl rfl ?_
  intro p e s m args below meth c Q C hE
  refine r_aload_n C dX1_follow_0 rfl ?_
  refine r_iload_n C dX1_follow_1 rfl ?_
  refine cvI_X1_135 C dX1_follow_2 (c_X1_isOpen h hh _) hh.1 hh.k0 ⟨rfl, rfl⟩ rfl rfl rfl ?_
  have nj : (nI j).toNatClampNeg = j := nI_clamp (by omega)
  have hO : hsOpen v h (nI j) = 1 := by simp [hsOpen, nj, ho, nI_pos (show j < 2 ^ 31 by omega), (na_lt (rfl : nI j = nI j) kn_8 (by omega) (by omega)).mpr hj]
  rw [hO]
  refine r_if_ne (tgt := 9) C dX1_follow_5 rfl (fun c_5 => ?_) (fun c_5 => ?_)
  · skip
    refine r_iconst C dX1_follow_9 ic_0 ?_
    refine r_istore_n C dX1_follow_10 rfl rfl ?_
    have loop_11 : ∀ (r : Nat) (i : Nat) (w : mV) (z4 : Option Value), (i + r = M) → (w (h + 1) 5 = nI q) → (hsFols h j r w = hsFols h j M v) → WM g p l e rm_X1_follow s m args below meth c Q tpl b n w 11 [some (.ref (b + h)), some (.int (nI j)), some (.int (nI M)), some (.int (nI i)), z4] [] := by
      intro r
      induction r with
      | zero =>
        intro i w z4 hi hwq hR
        refine r_iload_n C dX1_follow_11 rfl ?_
        refine r_iload_n C dX1_follow_12 rfl ?_
        refine r_icmp_ge (tgt := 72) C dX1_follow_13 rfl (fun c_13 => ?_) (fun c_13 => ?_)
        · skip
          exact hE _ _ _ dX1_follow_72 (And.intro rfl (by rw [← hR]; rfl))
        · exact absurd c_13 (nI_nlt (by omega) (by omega))
      | succ r ih_11 =>
        intro i w z4 hi hwq hR
        refine r_iload_n C dX1_follow_11 rfl ?_
        refine r_iload_n C dX1_follow_12 rfl ?_
        refine r_icmp_ge (tgt := 72) C dX1_follow_13 rfl (fun c_13 => ?_) (fun c_13 => ?_)
        · exact absurd (nI_lt (by omega) (by omega)) c_13
        · skip
          refine r_aload_n C dX1_follow_16 rfl ?_
          refine r_dup C dX1_follow_17 rfl ?_
          refine gf_X1_49 C dX1_follow_18 hh.1 hh.k0 ?_
          refine r_iconst C dX1_follow_21 ic_1 ?_
          refine r_iadd C dX1_follow_22 ?_
          refine pf_X1_49 C dX1_follow_23 hh.1 hh.k0 ?_
          refine r_aload_n C dX1_follow_26 rfl ?_
          refine gf_X1_12 C dX1_follow_27 hh.1 hh.k0 ?_
          refine r_aload_n C dX1_follow_30 rfl ?_
          refine gf_X1_49 C dX1_follow_31 hh.1 hh.k0 ?_
          refine cvI_X1_83 C dX1_follow_34 (c_X5_regionAt h hh.2.1 _) hh.2.1.1 (hh.2.1.k (by decide)) ⟨rfl, rfl⟩ rfl rfl rfl ?_
          rw [u2_r, upd_r]
          refine r_istore C dX1_follow_37 rfl rfl ?_
          refine r_aload_n C dX1_follow_39 rfl ?_
          refine r_aload_n C dX1_follow_40 rfl ?_
          refine gf_X1_20 C dX1_follow_41 hh.1 hh.k0 ?_
          refine r_iload_n C dX1_follow_44 rfl ?_
          refine r_aald (t0 := 3) C dX1_follow_45 hh.2.2.1 rfl (hh.k (by decide)) (j := j) rfl (by omega) rfl rfl ?_
          refine r_iload C dX1_follow_46 rfl ?_
          refine cvI_X1_151 C dX1_follow_48 (c_X1_age h hh j (by omega) _) hh.1 hh.k0 ⟨rfl, rfl⟩ rfl rfl rfl ?_
          refine r_if_eq (tgt := 66) C dX1_follow_51 rfl (fun c_51 => ?_) (fun c_51 => ?_)
          · skip
            refine r_iinc C dX1_follow_66 rfl (nI_inc _) rfl ?_
            refine r_goto (tgt := 11) C dX1_follow_69 rfl ?_
            exact ih_11 (i + 1) _ _ (by omega) (by first | (rw [hsAge_1, u2_o (by omega)]; exact hwq) | (rw [hsPage_1, hsAge_1, u2_o (by omega)]; exact hwq)) (by rw [← hR]; simp [hsFols, hsFol1, c_13, c_51])
          · skip
            refine r_aload_n C dX1_follow_54 rfl ?_
            refine r_aload_n C dX1_follow_55 rfl ?_
            refine gf_X1_20 C dX1_follow_56 hh.1 hh.k0 ?_
            refine r_iload_n C dX1_follow_59 rfl ?_
            refine r_aald (t0 := 3) C dX1_follow_60 hh.2.2.1 rfl (hh.k (by decide)) (j := j) rfl hj rfl rfl ?_
            refine r_iload C dX1_follow_61 rfl ?_
            refine cvV_X1_87 C dX1_follow_63 (c_X1_page h hh j hj q (by rw [hsAge_1, u2_o (by omega)]; exact hwq) hq6 _) hh.1 hh.k0 ⟨rfl, rfl⟩ rfl rfl rfl ?_
            refine r_iinc C dX1_follow_66 rfl (nI_inc _) rfl ?_
            refine r_goto (tgt := 11) C dX1_follow_69 rfl ?_
            exact ih_11 (i + 1) _ _ (by omega) (by first | (rw [hsAge_1, u2_o (by omega)]; exact hwq) | (rw [hsPage_1, hsAge_1, u2_o (by omega)]; exact hwq)) (by rw [← hR]; simp [hsFols, hsFol1, c_13, c_51])
    exact loop_11 M 0 v none (by omega) hq rfl
  · exact absurd c_5 (by decide)
