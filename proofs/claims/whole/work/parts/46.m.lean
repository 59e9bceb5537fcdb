/-! ===== the reference: count ===== -/
set_option maxRecDepth 100000 in
set_option maxHeartbeats 4000000 in
theorem c_X11_count {g : mG} {l : Launch} {tpl : mT} {b n : Nat} {v : mV} {σ : Nat → Int32} (hm : isM g tpl b n) (hI : MI σ) (x : Int32) : CT g l tpl b n yX11_count cX11_count 2 (some .int) rm_X11_count [.ref (b + 0), .int x] (sv v σ) (pI (mCount v σ x) (sv v σ)) := by
  refine CT.introI [some (.ref (b + 0)), some (.int x)] (own := RX11) (by decide +kernel) rfl rfl rfl rfl ?_
  intro p e s m args below meth c Q C hE
  refine r_iload_n C dX11_count_0 rfl ?_
  by_cases s_0 : x = 0
  · skip
    refine r_tsw (y := 0) (off := 103) (tgt := 104) C dX11_count_1 s_0 (by decide +kernel) rfl ?_
    refine r_aload_n C dX11_count_104 rfl ?_
    refine gf_X11_7 C dX11_count_105 hm.1 (hm.k (by decide)) ?_
    refine r_iload_n C dX11_count_108 rfl ?_
    refine r_sld C dX11_count_109 hm (j := 0) (by rw [s_0]; decide +kernel) (by omega) ?_
    exact hE _ _ _ _ dX11_count_110 (And.intro (congrArg (fun z => some (Value.int z)) (by simp only [mCount, s_0, if_true, if_false]; try rfl)) rfl)
  by_cases s_1 : x = 1
  · skip
    refine r_tsw (y := 1) (off := 103) (tgt := 104) C dX11_count_1 s_1 (by decide +kernel) rfl ?_
    refine r_aload_n C dX11_count_104 rfl ?_
    refine gf_X11_7 C dX11_count_105 hm.1 (hm.k (by decide)) ?_
    refine r_iload_n C dX11_count_108 rfl ?_
    refine r_sld C dX11_count_109 hm (j := 1) (by rw [s_1]; decide +kernel) (by omega) ?_
    exact hE _ _ _ _ dX11_count_110 (And.intro (congrArg (fun z => some (Value.int z)) (by simp only [mCount, s_0, s_1, if_true, if_false]; try rfl)) rfl)
  by_cases s_2 : x = 2
  · skip
    refine r_tsw (y := 2) (off := 103) (tgt := 104) C dX11_count_1 s_2 (by decide +kernel) rfl ?_
    refine r_aload_n C dX11_count_104 rfl ?_
    refine gf_X11_7 C dX11_count_105 hm.1 (hm.k (by decide)) ?_
    refine r_iload_n C dX11_count_108 rfl ?_
    refine r_sld C dX11_count_109 hm (j := 2) (by rw [s_2]; decide +kernel) (by omega) ?_
    exact hE _ _ _ _ dX11_count_110 (And.intro (congrArg (fun z => some (Value.int z)) (by simp only [mCount, s_0, s_1, s_2, if_true, if_false]; try rfl)) rfl)
  by_cases s_3 : x = 3
  · skip
    refine r_tsw (y := 3) (off := 110) (tgt := 111) C dX11_count_1 s_3 (by decide +kernel) rfl ?_
    refine r_aload_n C dX11_count_111 rfl ?_
    refine r_iload_n C dX11_count_112 rfl ?_
    refine cvI_X11_158 C dX11_count_113 (c_X11_openOnes hm _) hm.1 (hm.k (by decide)) ⟨rfl, rfl⟩ rfl rfl rfl ?_
    exact hE _ _ _ _ dX11_count_116 (And.intro (congrArg (fun z => some (Value.int z)) (by simp only [mCount, s_0, s_1, s_2, s_3, if_true, if_false]; try rfl)) rfl)
  by_cases s_4 : x = 4
  · skip
    refine r_tsw (y := 4) (off := 110) (tgt := 111) C dX11_count_1 s_4 (by decide +kernel) rfl ?_
    refine r_aload_n C dX11_count_111 rfl ?_
    refine r_iload_n C dX11_count_112 rfl ?_
    refine cvI_X11_158 C dX11_count_113 (c_X11_openOnes hm _) hm.1 (hm.k (by decide)) ⟨rfl, rfl⟩ rfl rfl rfl ?_
    exact hE _ _ _ _ dX11_count_116 (And.intro (congrArg (fun z => some (Value.int z)) (by simp only [mCount, s_0, s_1, s_2, s_3, s_4, if_true, if_false]; try rfl)) rfl)
  by_cases s_5 : x = 5
  · skip
    refine r_tsw (y := 5) (off := 110) (tgt := 111) C dX11_count_1 s_5 (by decide +kernel) rfl ?_
    refine r_aload_n C dX11_count_111 rfl ?_
    refine r_iload_n C dX11_count_112 rfl ?_
    refine cvI_X11_158 C dX11_count_113 (c_X11_openOnes hm _) hm.1 (hm.k (by decide)) ⟨rfl, rfl⟩ rfl rfl rfl ?_
    exact hE _ _ _ _ dX11_count_116 (And.intro (congrArg (fun z => some (Value.int z)) (by simp only [mCount, s_0, s_1, s_2, s_3, s_4, s_5, if_true, if_false]; try rfl)) rfl)
  by_cases s_6 : x = 6
  · skip
    refine r_tsw (y := 6) (off := 116) (tgt := 117) C dX11_count_1 s_6 (by decide +kernel) rfl ?_
    refine r_aload_n C dX11_count_117 rfl ?_
    refine gf_X11_7 C dX11_count_118 hm.1 (hm.k (by decide)) ?_
    refine r_iconst C dX11_count_121 ic_3 ?_
    refine r_iload_n C dX11_count_122 rfl ?_
    refine r_iadd C dX11_count_123 ?_
    refine r_bipush C dX11_count_124 bp_6 ?_
    refine r_isub C dX11_count_126 ?_
    refine r_sld C dX11_count_127 hm (j := 3) (by rw [s_6]; decide +kernel) (by omega) ?_
    exact hE _ _ _ _ dX11_count_128 (And.intro (congrArg (fun z => some (Value.int z)) (by simp only [mCount, s_0, s_1, s_2, s_3, s_4, s_5, s_6, if_true, if_false]; try rfl)) rfl)
  by_cases s_7 : x = 7
  · skip
    refine r_tsw (y := 7) (off := 116) (tgt := 117) C dX11_count_1 s_7 (by decide +kernel) rfl ?_
    refine r_aload_n C dX11_count_117 rfl ?_
    refine gf_X11_7 C dX11_count_118 hm.1 (hm.k (by decide)) ?_
    refine r_iconst C dX11_count_121 ic_3 ?_
    refine r_iload_n C dX11_count_122 rfl ?_
    refine r_iadd C dX11_count_123 ?_
    refine r_bipush C dX11_count_124 bp_6 ?_
    refine r_isub C dX11_count_126 ?_
    refine r_sld C dX11_count_127 hm (j := 4) (by rw [s_7]; decide +kernel) (by omega) ?_
    exact hE _ _ _ _ dX11_count_128 (And.intro (congrArg (fun z => some (Value.int z)) (by simp only [mCount, s_0, s_1, s_2, s_3, s_4, s_5, s_6, s_7, if_true, if_false]; try rfl)) rfl)
  by_cases s_8 : x = 8
  · skip
    refine r_tsw (y := 8) (off := 116) (tgt := 117) C dX11_count_1 s_8 (by decide +kernel) rfl ?_
    refine r_aload_n C dX11_count_117 rfl ?_
    refine gf_X11_7 C dX11_count_118 hm.1 (hm.k (by decide)) ?_
    refine r_iconst C dX11_count_121 ic_3 ?_
    refine r_iload_n C dX11_count_122 rfl ?_
    refine r_iadd C dX11_count_123 ?_
    refine r_bipush C dX11_count_124 bp_6 ?_
    refine r_isub C dX11_count_126 ?_
    refine r_sld C dX11_count_127 hm (j := 5) (by rw [s_8]; decide +kernel) (by omega) ?_
    exact hE _ _ _ _ dX11_count_128 (And.intro (congrArg (fun z => some (Value.int z)) (by simp only [mCount, s_0, s_1, s_2, s_3, s_4, s_5, s_6, s_7, s_8, if_true, if_false]; try rfl)) rfl)
  by_cases s_9 : x = 9
  · skip
    refine r_tsw (y := 9) (off := 116) (tgt := 117) C dX11_count_1 s_9 (by decide +kernel) rfl ?_
    refine r_aload_n C dX11_count_117 rfl ?_
    refine gf_X11_7 C dX11_count_118 hm.1 (hm.k (by decide)) ?_
    refine r_iconst C dX11_count_121 ic_3 ?_
    refine r_iload_n C dX11_count_122 rfl ?_
    refine r_iadd C dX11_count_123 ?_
    refine r_bipush C dX11_count_124 bp_6 ?_
    refine r_isub C dX11_count_126 ?_
    refine r_sld C dX11_count_127 hm (j := 6) (by rw [s_9]; decide +kernel) (by omega) ?_
    exact hE _ _ _ _ dX11_count_128 (And.intro (congrArg (fun z => some (Value.int z)) (by simp only [mCount, s_0, s_1, s_2, s_3, s_4, s_5, s_6, s_7, s_8, s_9, if_true, if_false]; try rfl)) rfl)
  by_cases s_10 : x = 10
  · skip
    refine r_tsw (y := 10) (off := 116) (tgt := 117) C dX11_count_1 s_10 (by decide +kernel) rfl ?_
    refine r_aload_n C dX11_count_117 rfl ?_
    refine gf_X11_7 C dX11_count_118 hm.1 (hm.k (by decide)) ?_
    refine r_iconst C dX11_count_121 ic_3 ?_
    refine r_iload_n C dX11_count_122 rfl ?_
    refine r_iadd C dX11_count_123 ?_
    refine r_bipush C dX11_count_124 bp_6 ?_
    refine r_isub C dX11_count_126 ?_
    refine r_sld C dX11_count_127 hm (j := 7) (by rw [s_10]; decide +kernel) (by omega) ?_
    exact hE _ _ _ _ dX11_count_128 (And.intro (congrArg (fun z => some (Value.int z)) (by simp only [mCount, s_0, s_1, s_2, s_3, s_4, s_5, s_6, s_7, s_8, s_9, s_10, if_true, if_false]; try rfl)) rfl)
  by_cases s_11 : x = 11
  · skip
    refine r_tsw (y := 11) (off := 116) (tgt := 117) C dX11_count_1 s_11 (by decide +kernel) rfl ?_
    refine r_aload_n C dX11_count_117 rfl ?_
    refine gf_X11_7 C dX11_count_118 hm.1 (hm.k (by decide)) ?_
    refine r_iconst C dX11_count_121 ic_3 ?_
    refine r_iload_n C dX11_count_122 rfl ?_
    refine r_iadd C dX11_count_123 ?_
    refine r_bipush C dX11_count_124 bp_6 ?_
    refine r_isub C dX11_count_126 ?_
    refine r_sld C dX11_count_127 hm (j := 8) (by rw [s_11]; decide +kernel) (by omega) ?_
    exact hE _ _ _ _ dX11_count_128 (And.intro (congrArg (fun z => some (Value.int z)) (by simp only [mCount, s_0, s_1, s_2, s_3, s_4, s_5, s_6, s_7, s_8, s_9, s_10, s_11, if_true, if_false]; try rfl)) rfl)
  by_cases s_12 : x = 12
  · skip
    refine r_tsw (y := 12) (off := 116) (tgt := 117) C dX11_count_1 s_12 (by decide +kernel) rfl ?_
    refine r_aload_n C dX11_count_117 rfl ?_
    refine gf_X11_7 C dX11_count_118 hm.1 (hm.k (by decide)) ?_
    refine r_iconst C dX11_count_121 ic_3 ?_
    refine r_iload_n C dX11_count_122 rfl ?_
    refine r_iadd C dX11_count_123 ?_
    refine r_bipush C dX11_count_124 bp_6 ?_
    refine r_isub C dX11_count_126 ?_
    refine r_sld C dX11_count_127 hm (j := 9) (by rw [s_12]; decide +kernel) (by omega) ?_
    exact hE _ _ _ _ dX11_count_128 (And.intro (congrArg (fun z => some (Value.int z)) (by simp only [mCount, s_0, s_1, s_2, s_3, s_4, s_5, s_6, s_7, s_8, s_9, s_10, s_11, s_12, if_true, if_false]; try rfl)) rfl)
  by_cases s_13 : x = 13
  · skip
    refine r_tsw (y := 13) (off := 128) (tgt := 129) C dX11_count_1 s_13 (by decide +kernel) rfl ?_
    refine r_aload_n C dX11_count_129 rfl ?_
    refine cvI_X11_89 C dX11_count_130 (c_X11_inForce hm hI) hm.1 (hm.k (by decide)) ⟨rfl, rfl⟩ rfl rfl rfl ?_
    exact hE _ _ _ _ dX11_count_133 (And.intro (congrArg (fun z => some (Value.int z)) (by simp only [mCount, s_0, s_1, s_2, s_3, s_4, s_5, s_6, s_7, s_8, s_9, s_10, s_11, s_12, s_13, if_true, if_false]; try rfl)) rfl)
  by_cases s_14 : x = 14
  · skip
    refine r_tsw (y := 14) (off := 133) (tgt := 134) C dX11_count_1 s_14 (by decide +kernel) rfl ?_
    refine r_aload_n C dX11_count_134 rfl ?_
    refine gf_X11_28 C dX11_count_135 hm.1 (hm.k (by decide)) ?_
    exact hE _ _ _ _ dX11_count_138 (And.intro (congrArg (fun z => some (Value.int z)) (by simp only [mCount, s_0, s_1, s_2, s_3, s_4, s_5, s_6, s_7, s_8, s_9, s_10, s_11, s_12, s_13, s_14, if_true, if_false]; try rfl)) rfl)
  by_cases s_15 : x = 15
  · skip
    refine r_tsw (y := 15) (off := 138) (tgt := 139) C dX11_count_1 s_15 (by decide +kernel) rfl ?_
    refine r_aload_n C dX11_count_139 rfl ?_
    refine gf_X11_161 C dX11_count_140 hm.1 (hm.k (by decide)) ?_
    exact hE _ _ _ _ dX11_count_143 (And.intro (congrArg (fun z => some (Value.int z)) (by simp only [mCount, s_0, s_1, s_2, s_3, s_4, s_5, s_6, s_7, s_8, s_9, s_10, s_11, s_12, s_13, s_14, s_15, if_true, if_false]; try rfl)) rfl)
  by_cases s_16 : x = 16
  · skip
    refine r_tsw (y := 16) (off := 156) (tgt := 157) C dX11_count_1 s_16 (by decide +kernel) rfl ?_
    refine r_iconst C dX11_count_157 ic_m1 ?_
    exact hE _ _ _ _ dX11_count_158 (And.intro (congrArg (fun z => some (Value.int z)) (by simp only [mCount, s_0, s_1, s_2, s_3, s_4, s_5, s_6, s_7, s_8, s_9, s_10, s_11, s_12, s_13, s_14, s_15, s_16, if_true, if_false]; try rfl)) rfl)
  by_cases s_17 : x = 17
  · skip
    refine r_tsw (y := 17) (off := 156) (tgt := 157) C dX11_count_1 s_17 (by decide +kernel) rfl ?_
    refine r_iconst C dX11_count_157 ic_m1 ?_
    exact hE _ _ _ _ dX11_count_158 (And.intro (congrArg (fun z => some (Value.int z)) (by simp only [mCount, s_0, s_1, s_2, s_3, s_4, s_5, s_6, s_7, s_8, s_9, s_10, s_11, s_12, s_13, s_14, s_15, s_16, s_17, if_true, if_false]; try rfl)) rfl)
  by_cases s_18 : x = 18
  · skip
    refine r_tsw (y := 18) (off := 156) (tgt := 157) C dX11_count_1 s_18 (by decide +kernel) rfl ?_
    refine r_iconst C dX11_count_157 ic_m1 ?_
    exact hE _ _ _ _ dX11_count_158 (And.intro (congrArg (fun z => some (Value.int z)) (by simp only [mCount, s_0, s_1, s_2, s_3, s_4, s_5, s_6, s_7, s_8, s_9, s_10, s_11, s_12, s_13, s_14, s_15, s_16, s_17, s_18, if_true, if_false]; try rfl)) rfl)
  by_cases s_19 : x = 19
  · skip
    refine r_tsw (y := 19) (off := 156) (tgt := 157) C dX11_count_1 s_19 (by decide +kernel) rfl ?_
    refine r_iconst C dX11_count_157 ic_m1 ?_
    exact hE _ _ _ _ dX11_count_158 (And.intro (congrArg (fun z => some (Value.int z)) (by simp only [mCount, s_0, s_1, s_2, s_3, s_4, s_5, s_6, s_7, s_8, s_9, s_10, s_11, s_12, s_13, s_14, s_15, s_16, s_17, s_18, s_19, if_true, if_false]; try rfl)) rfl)
  by_cases s_20 : x = 20
  · skip
    refine r_tsw (y := 20) (off := 143) (tgt := 144) C dX11_count_1 s_20 (by decide +kernel) rfl ?_
    refine r_aload_n C dX11_count_144 rfl ?_
    refine gf_X11_7 C dX11_count_145 hm.1 (hm.k (by decide)) ?_
    refine r_bipush C dX11_count_148 bp_13 ?_
    refine r_iload_n C dX11_count_150 rfl ?_
    refine r_iadd C dX11_count_151 ?_
    refine r_bipush C dX11_count_152 bp_20 ?_
    refine r_isub C dX11_count_154 ?_
    refine r_sld C dX11_count_155 hm (j := 13) (by rw [s_20]; decide +kernel) (by omega) ?_
    exact hE _ _ _ _ dX11_count_156 (And.intro (congrArg (fun z => some (Value.int z)) (by simp only [mCount, s_0, s_1, s_2, s_3, s_4, s_5, s_6, s_7, s_8, s_9, s_10, s_11, s_12, s_13, s_14, s_15, s_16, s_17, s_18, s_19, s_20, if_true, if_false]; try rfl)) rfl)
  by_cases s_21 : x = 21
  · skip
    refine r_tsw (y := 21) (off := 143) (tgt := 144) C dX11_count_1 s_21 (by decide +kernel) rfl ?_
    refine r_aload_n C dX11_count_144 rfl ?_
    refine gf_X11_7 C dX11_count_145 hm.1 (hm.k (by decide)) ?_
    refine r_bipush C dX11_count_148 bp_13 ?_
    refine r_iload_n C dX11_count_150 rfl ?_
    refine r_iadd C dX11_count_151 ?_
    refine r_bipush C dX11_count_152 bp_20 ?_
    refine r_isub C dX11_count_154 ?_
    refine r_sld C dX11_count_155 hm (j := 14) (by rw [s_21]; decide +kernel) (by omega) ?_
    exact hE _ _ _ _ dX11_count_156 (And.intro (congrArg (fun z => some (Value.int z)) (by simp only [mCount, s_0, s_1, s_2, s_3, s_4, s_5, s_6, s_7, s_8, s_9, s_10, s_11, s_12, s_13, s_14, s_15, s_16, s_17, s_18, s_19, s_20, s_21, if_true, if_false]; try rfl)) rfl)
  refine r_tswd (tgt := 157) (lo := 0) (cnt := 22) C dX11_count_1 (fun j hj => match j, hj with | 0, _ => s_0 | 1, _ => s_1 | 2, _ => s_2 | 3, _ => s_3 | 4, _ => s_4 | 5, _ => s_5 | 6, _ => s_6 | 7, _ => s_7 | 8, _ => s_8 | 9, _ => s_9 | 10, _ => s_10 | 11, _ => s_11 | 12, _ => s_12 | 13, _ => s_13 | 14, _ => s_14 | 15, _ => s_15 | 16, _ => s_16 | 17, _ => s_17 | 18, _ => s_18 | 19, _ => s_19 | 20, _ => s_20 | 21, _ => s_21 | (j + 22), h => absurd h (by omega)) rfl rfl ?_
  refine r_iconst C dX11_count_157 ic_m1 ?_
  exact hE _ _ _ _ dX11_count_158 (And.intro (congrArg (fun z => some (Value.int z)) (by simp only [mCount, s_0, s_1, s_2, s_3, s_4, s_5, s_6, s_7, s_8, s_9, s_10, s_11, s_12, s_13, s_14, s_15, s_16, s_17, s_18, s_19, s_20, s_21, if_true, if_false]; try rfl)) rfl)
