set_option maxRecDepth 100000 in
set_option maxHeartbeats 4000000 in
theorem c_X11_minuteOf {g : mG} {l : Launch} {tpl : mT} {b n : Nat} {v : mV} {σ : Nat → Int32} (hm : isM g tpl b n) (hI : MI σ) (i : Nat) (hi : i < 8) (hL : ∃ l, l ≤ 60000 ∧ σ (101 + 16 * i + 3) = nI l) : CT g l tpl b n yX11_minuteOf cX11_minuteOf 5 none rm_X11_minuteOf [.ref (b + 0), .int (nI i)] (sv v σ) (pV (sv v (mMinOf σ i))) := by
  have hA : ∀ d, MI (mMinA σ i d) := fun d => MI_free (MI_free hI (by omega) (by omega)) (by omega) (by omega)
  have hI1 : MI (mHand σ i) := MI_free (MI_free (MI_lvl (l := 0) (hA 0) (by omega)) (by omega) (by omega)) (by omega) (by omega)
  have hI2 : MI (mEsc σ i) := by
    obtain ⟨l, hl, el⟩ := hL
    unfold mEsc
    rw [el, nI_1]
    exact MI_free (MI_free (MI_lvl (hA 0) (by omega)) (by omega) (by omega)) (by omega) (by omega)
  refine CT.introV [some (.ref (b + 0)), some (.int (nI i)), none, none, none] (own := RX11) (by decide +kernel) rfl rfl rfl rfl ?_
  intro p e s m args below meth c Q C hE
  refine r_iload_n C dX11_minuteOf_0 rfl ?_
  refine cvI_X11_36 C dX11_minuteOf_1 (c_X11_incidentAt _) ⟨rfl, rfl⟩ rfl rfl rfl ?_
  refine r_istore_n C dX11_minuteOf_4 rfl rfl ?_
  refine r_aload_n C dX11_minuteOf_5 rfl ?_
  refine gf_X11_7 C dX11_minuteOf_6 hm.1 (hm.k (by decide)) ?_
  refine r_iload_n C dX11_minuteOf_9 rfl ?_
  refine r_iconst C dX11_minuteOf_10 ic_4 ?_
  refine r_iadd C dX11_minuteOf_11 ?_
  refine r_sld C dX11_minuteOf_12 hm (j := ((101 + 16 * i) + 4)) (na_add (na_add kn_101 (na_mul kn_16 rfl)) kn_4) (by omega) ?_
  refine r_if_le (tgt := 20) C dX11_minuteOf_13 rfl (fun c_13 => ?_) (fun c_13 => ?_)
  · skip
    try simp (disch := omega) only [upd_o, upd_r] at c_13
    refine r_iconst C dX11_minuteOf_20 ic_0 ?_
    refine r_istore_n C dX11_minuteOf_21 rfl rfl ?_
    refine r_aload_n C dX11_minuteOf_22 rfl ?_
    refine r_aload_n C dX11_minuteOf_23 rfl ?_
    refine gf_X11_7 C dX11_minuteOf_24 hm.1 (hm.k (by decide)) ?_
    refine r_iconst C dX11_minuteOf_27 ic_2 ?_
    refine r_sld C dX11_minuteOf_28 hm (j := 2) kn_2 (by omega) ?_
    refine cvI_X11_51 C dX11_minuteOf_29 (c_X11_regionAt hm (MI_R hI) _) hm.1 (hm.k (by decide)) ⟨rfl, rfl⟩ rfl rfl rfl ?_
    refine r_istore C dX11_minuteOf_32 rfl rfl ?_
    refine r_aload_n C dX11_minuteOf_34 rfl ?_
    refine gf_X11_7 C dX11_minuteOf_35 hm.1 (hm.k (by decide)) ?_
    refine r_iload_n C dX11_minuteOf_38 rfl ?_
    refine r_bipush C dX11_minuteOf_39 bp_9 ?_
    refine r_iadd C dX11_minuteOf_41 ?_
    refine r_dup2 C dX11_minuteOf_42 rfl rfl ?_
    refine r_sld C dX11_minuteOf_43 hm (j := ((101 + 16 * i) + 9)) (na_add (na_add kn_101 (na_mul kn_16 rfl)) kn_9) (by omega) ?_
    refine r_iload_n C dX11_minuteOf_44 rfl ?_
    refine r_if_eq (tgt := 52) C dX11_minuteOf_45 rfl (fun c_45 => ?_) (fun c_45 => ?_)
    · skip
      refine r_iconst C dX11_minuteOf_52 ic_1 ?_
      refine r_iadd C dX11_minuteOf_53 ?_
      refine r_sst C dX11_minuteOf_54 hm (j := ((101 + 16 * i) + 9)) (na_add (na_add kn_101 (na_mul kn_16 rfl)) kn_9) (by omega) ?_
      refine r_aload_n C dX11_minuteOf_55 rfl ?_
      refine gf_X11_7 C dX11_minuteOf_56 hm.1 (hm.k (by decide)) ?_
      refine r_bipush C dX11_minuteOf_59 bp_9 ?_
      refine r_dup2 C dX11_minuteOf_61 rfl rfl ?_
      refine r_sld C dX11_minuteOf_62 hm (j := 9) kn_9 (by omega) ?_
      refine r_iload_n C dX11_minuteOf_63 rfl ?_
      refine r_if_eq (tgt := 71) C dX11_minuteOf_64 rfl (fun c_64 => ?_) (fun c_64 => ?_)
      · skip
        refine r_iconst C dX11_minuteOf_71 ic_1 ?_
        refine r_iadd C dX11_minuteOf_72 ?_
        refine r_sst C dX11_minuteOf_73 hm (j := 9) kn_9 (by omega) ?_
        refine r_iload_n C dX11_minuteOf_74 rfl ?_
        refine r_if_eq (tgt := 138) C dX11_minuteOf_75 rfl (fun c_75 => ?_) (fun c_75 => ?_)
        · skip
          refine r_iload_n C dX11_minuteOf_138 rfl ?_
          refine r_if_ne (tgt := 150) C dX11_minuteOf_139 rfl (fun c_139 => ?_) (fun c_139 => ?_)
          · exact absurd c_139 (by decide)
          · skip
            simp (disch := omega) only [upd_o, upd_r]
            change WM g p l e _ s m args below meth c Q tpl b n (sv v (mMinA σ i 1)) _ _ _
            refine r_aload_n C dX11_minuteOf_142 rfl ?_
            refine r_iload_n C dX11_minuteOf_143 rfl ?_
            refine cvV_X11_66 C dX11_minuteOf_144 (c_X11_pages hm (hA 1) i hi) hm.1 (hm.k (by decide)) ⟨rfl, rfl⟩ rfl rfl rfl ?_
            refine r_goto (tgt := 228) C dX11_minuteOf_147 rfl ?_
            exact hE _ _ _ dX11_minuteOf_228 (And.intro rfl (by first | (rw [mMinOf, if_pos c_13, if_neg c_80, if_pos c_94]; simp (disch := omega) [mMinA, c_13, upd_o]; done) | (simp (disch := omega) [mMinOf, c_13]; done)))
        · exact absurd c_75 (by decide)
      · exact absurd c_64 (by decide)
    · exact absurd c_45 (by decide)
  · skip
    try simp (disch := omega) only [upd_o, upd_r] at c_13
    refine r_iconst C dX11_minuteOf_16 ic_1 ?_
    refine r_goto (tgt := 21) C dX11_minuteOf_17 rfl ?_
    refine r_istore_n C dX11_minuteOf_21 rfl rfl ?_
    refine r_aload_n C dX11_minuteOf_22 rfl ?_
    refine r_aload_n C dX11_minuteOf_23 rfl ?_
    refine gf_X11_7 C dX11_minuteOf_24 hm.1 (hm.k (by decide)) ?_
    refine r_iconst C dX11_minuteOf_27 ic_2 ?_
    refine r_sld C dX11_minuteOf_28 hm (j := 2) kn_2 (by omega) ?_
    refine cvI_X11_51 C dX11_minuteOf_29 (c_X11_regionAt hm (MI_R hI) _) hm.1 (hm.k (by decide)) ⟨rfl, rfl⟩ rfl rfl rfl ?_
    refine r_istore C dX11_minuteOf_32 rfl rfl ?_
    refine r_aload_n C dX11_minuteOf_34 rfl ?_
    refine gf_X11_7 C dX11_minuteOf_35 hm.1 (hm.k (by decide)) ?_
    refine r_iload_n C dX11_minuteOf_38 rfl ?_
    refine r_bipush C dX11_minuteOf_39 bp_9 ?_
    refine r_iadd C dX11_minuteOf_41 ?_
    refine r_dup2 C dX11_minuteOf_42 rfl rfl ?_
    refine r_sld C dX11_minuteOf_43 hm (j := ((101 + 16 * i) + 9)) (na_add (na_add kn_101 (na_mul kn_16 rfl)) kn_9) (by omega) ?_
    refine r_iload_n C dX11_minuteOf_44 rfl ?_
    refine r_if_eq (tgt := 52) C dX11_minuteOf_45 rfl (fun c_45 => ?_) (fun c_45 => ?_)
    · exact absurd c_45 (by decide)
    · skip
      refine r_iconst C dX11_minuteOf_48 ic_0 ?_
      refine r_goto (tgt := 53) C dX11_minuteOf_49 rfl ?_
      refine r_iadd C dX11_minuteOf_53 ?_
      refine r_sst C dX11_minuteOf_54 hm (j := ((101 + 16 * i) + 9)) (na_add (na_add kn_101 (na_mul kn_16 rfl)) kn_9) (by omega) ?_
      refine r_aload_n C dX11_minuteOf_55 rfl ?_
      refine gf_X11_7 C dX11_minuteOf_56 hm.1 (hm.k (by decide)) ?_
      refine r_bipush C dX11_minuteOf_59 bp_9 ?_
      refine r_dup2 C dX11_minuteOf_61 rfl rfl ?_
      refine r_sld C dX11_minuteOf_62 hm (j := 9) kn_9 (by omega) ?_
      refine r_iload_n C dX11_minuteOf_63 rfl ?_
      refine r_if_eq (tgt := 71) C dX11_minuteOf_64 rfl (fun c_64 => ?_) (fun c_64 => ?_)
      · exact absurd c_64 (by decide)
      · skip
        refine r_iconst C dX11_minuteOf_67 ic_0 ?_
        refine r_goto (tgt := 72) C dX11_minuteOf_68 rfl ?_
        refine r_iadd C dX11_minuteOf_72 ?_
        refine r_sst C dX11_minuteOf_73 hm (j := 9) kn_9 (by omega) ?_
        refine r_iload_n C dX11_minuteOf_74 rfl ?_
        refine r_if_eq (tgt := 138) C dX11_minuteOf_75 rfl (fun c_75 => ?_) (fun c_75 => ?_)
        · exact absurd c_75 (by decide)
        · skip
          refine r_iload C dX11_minuteOf_78 rfl ?_
          refine r_if_lt (tgt := 97) C dX11_minuteOf_80 rfl (fun c_80 => ?_) (fun c_80 => ?_)
          · skip
            try simp (disch := omega) only [upd_o, upd_r] at c_80
            refine r_aload_n C dX11_minuteOf_97 rfl ?_
            refine gf_X11_7 C dX11_minuteOf_98 hm.1 (hm.k (by decide)) ?_
            refine r_iload_n C dX11_minuteOf_101 rfl ?_
            refine r_iconst C dX11_minuteOf_102 ic_3 ?_
            refine r_iadd C dX11_minuteOf_103 ?_
            refine r_iconst C dX11_minuteOf_104 ic_0 ?_
            refine r_sst C dX11_minuteOf_105 hm (j := ((101 + 16 * i) + 3)) (na_add (na_add kn_101 (na_mul kn_16 rfl)) kn_3) (by omega) ?_
            refine r_aload_n C dX11_minuteOf_106 rfl ?_
            refine gf_X11_7 C dX11_minuteOf_107 hm.1 (hm.k (by decide)) ?_
            refine r_iload_n C dX11_minuteOf_110 rfl ?_
            refine r_bipush C dX11_minuteOf_111 bp_12 ?_
            refine r_iadd C dX11_minuteOf_113 ?_
            refine r_dup2 C dX11_minuteOf_114 rfl rfl ?_
            refine r_sld C dX11_minuteOf_115 hm (j := ((101 + 16 * i) + 12)) (na_add (na_add kn_101 (na_mul kn_16 rfl)) kn_12) (by omega) ?_
            refine r_iconst C dX11_minuteOf_116 ic_1 ?_
            refine r_iadd C dX11_minuteOf_117 ?_
            refine r_sst C dX11_minuteOf_118 hm (j := ((101 + 16 * i) + 12)) (na_add (na_add kn_101 (na_mul kn_16 rfl)) kn_12) (by omega) ?_
            refine r_aload_n C dX11_minuteOf_119 rfl ?_
            refine gf_X11_7 C dX11_minuteOf_120 hm.1 (hm.k (by decide)) ?_
            refine r_bipush C dX11_minuteOf_123 bp_7 ?_
            refine r_dup2 C dX11_minuteOf_125 rfl rfl ?_
            refine r_sld C dX11_minuteOf_126 hm (j := 7) kn_7 (by omega) ?_
            refine r_iconst C dX11_minuteOf_127 ic_1 ?_
            refine r_iadd C dX11_minuteOf_128 ?_
            refine r_sst C dX11_minuteOf_129 hm (j := 7) kn_7 (by omega) ?_
            simp (disch := omega) only [upd_o, upd_r]
            change WM g p l e _ s m args below meth c Q tpl b n (sv v (mHand σ i)) _ _ _
            refine r_aload_n C dX11_minuteOf_130 rfl ?_
            refine r_iload_n C dX11_minuteOf_131 rfl ?_
            refine cvV_X11_66 C dX11_minuteOf_132 (c_X11_pages hm hI1 i hi) hm.1 (hm.k (by decide)) ⟨rfl, rfl⟩ rfl rfl rfl ?_
            refine r_goto (tgt := 228) C dX11_minuteOf_135 rfl ?_
            exact hE _ _ _ dX11_minuteOf_228 (And.intro rfl (by first | (rw [mMinOf, if_pos c_13, if_neg c_80, if_pos c_94]; simp (disch := omega) [mMinA, c_13, upd_o]; done) | (simp (disch := omega) [mMinOf, c_13, c_80]; done)))
          · skip
            try simp (disch := omega) only [upd_o, upd_r] at c_80
            refine r_iload C dX11_minuteOf_83 rfl ?_
            refine r_aload_n C dX11_minuteOf_85 rfl ?_
            refine gf_X11_7 C dX11_minuteOf_86 hm.1 (hm.k (by decide)) ?_
            refine r_iload_n C dX11_minuteOf_89 rfl ?_
            refine r_bipush C dX11_minuteOf_90 bp_11 ?_
            refine r_iadd C dX11_minuteOf_92 ?_
            refine r_sld C dX11_minuteOf_93 hm (j := ((101 + 16 * i) + 11)) (na_add (na_add kn_101 (na_mul kn_16 rfl)) kn_11) (by omega) ?_
            refine r_icmp_eq (tgt := 138) C dX11_minuteOf_94 rfl (fun c_94 => ?_) (fun c_94 => ?_)
            · skip
              try simp (disch := omega) only [upd_o, upd_r] at c_94
              refine r_iload_n C dX11_minuteOf_138 rfl ?_
              refine r_if_ne (tgt := 150) C dX11_minuteOf_139 rfl (fun c_139 => ?_) (fun c_139 => ?_)
              · skip
                refine r_aload_n C dX11_minuteOf_150 rfl ?_
                refine gf_X11_7 C dX11_minuteOf_151 hm.1 (hm.k (by decide)) ?_
                refine r_iload_n C dX11_minuteOf_154 rfl ?_
                refine r_iconst C dX11_minuteOf_155 ic_5 ?_
                refine r_iadd C dX11_minuteOf_156 ?_
                refine r_sld C dX11_minuteOf_157 hm (j := ((101 + 16 * i) + 5)) (na_add (na_add kn_101 (na_mul kn_16 rfl)) kn_5) (by omega) ?_
                refine r_if_ne (tgt := 228) C dX11_minuteOf_158 rfl (fun c_158 => ?_) (fun c_158 => ?_)
                · skip
                  try simp (disch := omega) only [upd_o, upd_r] at c_158
                  exact hE _ _ _ dX11_minuteOf_228 (And.intro rfl (by first | (rw [mMinOf, if_pos c_13, if_neg c_80, if_pos c_94]; simp (disch := omega) [mMinA, c_13, c_158, upd_o]; done) | (simp (disch := omega) [mMinOf, c_13, c_80, c_94, c_158]; done)))
                · skip
                  try simp (disch := omega) only [upd_o, upd_r] at c_158
                  refine r_aload_n C dX11_minuteOf_161 rfl ?_
                  refine gf_X11_7 C dX11_minuteOf_162 hm.1 (hm.k (by decide)) ?_
                  refine r_iconst C dX11_minuteOf_165 ic_2 ?_
                  refine r_sld C dX11_minuteOf_166 hm (j := 2) kn_2 (by omega) ?_
                  refine r_aload_n C dX11_minuteOf_167 rfl ?_
                  refine gf_X11_7 C dX11_minuteOf_168 hm.1 (hm.k (by decide)) ?_
                  refine r_iload_n C dX11_minuteOf_171 rfl ?_
                  refine r_bipush C dX11_minuteOf_172 bp_10 ?_
                  refine r_iadd C dX11_minuteOf_174 ?_
                  refine r_sld C dX11_minuteOf_175 hm (j := ((101 + 16 * i) + 10)) (na_add (na_add kn_101 (na_mul kn_16 rfl)) kn_10) (by omega) ?_
                  refine r_isub C dX11_minuteOf_176 ?_
                  refine r_aload_n C dX11_minuteOf_177 rfl ?_
                  refine gf_X11_7 C dX11_minuteOf_178 hm.1 (hm.k (by decide)) ?_
                  refine r_bipush C dX11_minuteOf_181 bp_13 ?_
                  refine r_sld C dX11_minuteOf_183 hm (j := 13) kn_13 (by omega) ?_
                  refine r_icmp_lt (tgt := 228) C dX11_minuteOf_184 rfl (fun c_184 => ?_) (fun c_184 => ?_)
                  · skip
                    try simp (disch := omega) only [upd_o, upd_r] at c_184
                    exact hE _ _ _ dX11_minuteOf_228 (And.intro rfl (by first | (rw [mMinOf, if_pos c_13, if_neg c_80, if_pos c_94]; simp (disch := omega) [mMinA, c_13, c_158, c_184, upd_o]; done) | (simp (disch := omega) [mMinOf, c_13, c_80, c_94, c_158, c_184]; done)))
                  · skip
                    try simp (disch := omega) only [upd_o, upd_r] at c_184
                    refine r_aload_n C dX11_minuteOf_187 rfl ?_
                    refine gf_X11_7 C dX11_minuteOf_188 hm.1 (hm.k (by decide)) ?_
                    refine r_iload_n C dX11_minuteOf_191 rfl ?_
                    refine r_iconst C dX11_minuteOf_192 ic_3 ?_
                    refine r_iadd C dX11_minuteOf_193 ?_
                    refine r_dup2 C dX11_minuteOf_194 rfl rfl ?_
                    refine r_sld C dX11_minuteOf_195 hm (j := ((101 + 16 * i) + 3)) (na_add (na_add kn_101 (na_mul kn_16 rfl)) kn_3) (by omega) ?_
                    refine r_iconst C dX11_minuteOf_196 ic_1 ?_
                    refine r_iadd C dX11_minuteOf_197 ?_
                    refine r_sst C dX11_minuteOf_198 hm (j := ((101 + 16 * i) + 3)) (na_add (na_add kn_101 (na_mul kn_16 rfl)) kn_3) (by omega) ?_
                    refine r_aload_n C dX11_minuteOf_199 rfl ?_
                    refine gf_X11_7 C dX11_minuteOf_200 hm.1 (hm.k (by decide)) ?_
                    refine r_iload_n C dX11_minuteOf_203 rfl ?_
                    refine r_bipush C dX11_minuteOf_204 bp_13 ?_
                    refine r_iadd C dX11_minuteOf_206 ?_
                    refine r_dup2 C dX11_minuteOf_207 rfl rfl ?_
                    refine r_sld C dX11_minuteOf_208 hm (j := ((101 + 16 * i) + 13)) (na_add (na_add kn_101 (na_mul kn_16 rfl)) kn_13) (by omega) ?_
                    refine r_iconst C dX11_minuteOf_209 ic_1 ?_
                    refine r_iadd C dX11_minuteOf_210 ?_
                    refine r_sst C dX11_minuteOf_211 hm (j := ((101 + 16 * i) + 13)) (na_add (na_add kn_101 (na_mul kn_16 rfl)) kn_13) (by omega) ?_
                    refine r_aload_n C dX11_minuteOf_212 rfl ?_
                    refine gf_X11_7 C dX11_minuteOf_213 hm.1 (hm.k (by decide)) ?_
                    refine r_bipush C dX11_minuteOf_216 bp_8 ?_
                    refine r_dup2 C dX11_minuteOf_218 rfl rfl ?_
                    refine r_sld C dX11_minuteOf_219 hm (j := 8) kn_8 (by omega) ?_
                    refine r_iconst C dX11_minuteOf_220 ic_1 ?_
                    refine r_iadd C dX11_minuteOf_221 ?_
                    refine r_sst C dX11_minuteOf_222 hm (j := 8) kn_8 (by omega) ?_
                    simp (disch := omega) only [upd_o, upd_r]
                    change WM g p l e _ s m args below meth c Q tpl b n (sv v (mEsc σ i)) _ _ _
                    refine r_aload_n C dX11_minuteOf_223 rfl ?_
                    refine r_iload_n C dX11_minuteOf_224 rfl ?_
                    refine cvV_X11_66 C dX11_minuteOf_225 (c_X11_pages hm hI2 i hi) hm.1 (hm.k (by decide)) ⟨rfl, rfl⟩ rfl rfl rfl ?_
                    exact hE _ _ _ dX11_minuteOf_228 (And.intro rfl (by first | (rw [mMinOf, if_pos c_13, if_neg c_80, if_pos c_94]; simp (disch := omega) [mMinA, c_13, c_158, c_184, upd_o]; done) | (simp (disch := omega) [mMinOf, c_13, c_80, c_94, c_158, c_184]; done)))
              · exact absurd c_139 (by decide)
            · skip
              try simp (disch := omega) only [upd_o, upd_r] at c_94
              refine r_aload_n C dX11_minuteOf_97 rfl ?_
              refine gf_X11_7 C dX11_minuteOf_98 hm.1 (hm.k (by decide)) ?_
              refine r_iload_n C dX11_minuteOf_101 rfl ?_
              refine r_iconst C dX11_minuteOf_102 ic_3 ?_
              refine r_iadd C dX11_minuteOf_103 ?_
              refine r_iconst C dX11_minuteOf_104 ic_0 ?_
              refine r_sst C dX11_minuteOf_105 hm (j := ((101 + 16 * i) + 3)) (na_add (na_add kn_101 (na_mul kn_16 rfl)) kn_3) (by omega) ?_
              refine r_aload_n C dX11_minuteOf_106 rfl ?_
              refine gf_X11_7 C dX11_minuteOf_107 hm.1 (hm.k (by decide)) ?_
              refine r_iload_n C dX11_minuteOf_110 rfl ?_
              refine r_bipush C dX11_minuteOf_111 bp_12 ?_
              refine r_iadd C dX11_minuteOf_113 ?_
              refine r_dup2 C dX11_minuteOf_114 rfl rfl ?_
              refine r_sld C dX11_minuteOf_115 hm (j := ((101 + 16 * i) + 12)) (na_add (na_add kn_101 (na_mul kn_16 rfl)) kn_12) (by omega) ?_
              refine r_iconst C dX11_minuteOf_116 ic_1 ?_
              refine r_iadd C dX11_minuteOf_117 ?_
              refine r_sst C dX11_minuteOf_118 hm (j := ((101 + 16 * i) + 12)) (na_add (na_add kn_101 (na_mul kn_16 rfl)) kn_12) (by omega) ?_
              refine r_aload_n C dX11_minuteOf_119 rfl ?_
              refine gf_X11_7 C dX11_minuteOf_120 hm.1 (hm.k (by decide)) ?_
              refine r_bipush C dX11_minuteOf_123 bp_7 ?_
              refine r_dup2 C dX11_minuteOf_125 rfl rfl ?_
              refine r_sld C dX11_minuteOf_126 hm (j := 7) kn_7 (by omega) ?_
              refine r_iconst C dX11_minuteOf_127 ic_1 ?_
              refine r_iadd C dX11_minuteOf_128 ?_
              refine r_sst C dX11_minuteOf_129 hm (j := 7) kn_7 (by omega) ?_
              simp (disch := omega) only [upd_o, upd_r]
              change WM g p l e _ s m args below meth c Q tpl b n (sv v (mHand σ i)) _ _ _
              refine r_aload_n C dX11_minuteOf_130 rfl ?_
              refine r_iload_n C dX11_minuteOf_131 rfl ?_
              refine cvV_X11_66 C dX11_minuteOf_132 (c_X11_pages hm hI1 i hi) hm.1 (hm.k (by decide)) ⟨rfl, rfl⟩ rfl rfl rfl ?_
              refine r_goto (tgt := 228) C dX11_minuteOf_135 rfl ?_
              exact hE _ _ _ dX11_minuteOf_228 (And.intro rfl (by first | (rw [mMinOf, if_pos c_13, if_neg c_80, if_pos c_94]; simp (disch := omega) [mMinA, c_13, upd_o]; done) | (simp (disch := omega) [mMinOf, c_13, c_80, c_94]; done)))
