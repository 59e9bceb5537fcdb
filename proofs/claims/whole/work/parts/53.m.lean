set_option maxRecDepth 100000 in
set_option maxHeartbeats 4000000 in
theorem c_X11_command {g : mG} {l : Launch} {tpl : mT} {b n : Nat} {v : mV} {σ : Nat → Int32} (hm : isM g tpl b n) (T : Nat) (hM : MT σ T T) (hT : T ≤ 30000) (N : Nat) (hN : v 0 6 = nI N) (hN80 : N ≤ 80) (a : Nat) (ha : v 0 7 = nI a) (ha9 : a < 100) : CT g l tpl b n yX11_command cX11_command 4 (some .int) rm_X11_command [.ref (b + 0)] (sv v σ) (pI (mCmd v σ a N).1 (mCmd v σ a N).2) := by
  refine CT.introI [some (.ref (b + 0)), none, none, none] (own := RX11) (by decide +kernel) rfl rfl rfl rfl ?_
  intro p e s m args below meth c Q C hE
  have loop_68 : ∀ (r : Nat) (k2 : Int32) (K i a1 : Nat) (w : mV), (K ≤ 3) → (k2 = nI K) → (K = mCnt (mHere v a N)) → (i + r = K) → (a1 ≤ a + 4 * i) → (w 1 = σ) → (w 0 6 = nI N) → (w 0 7 = nI a1) → (mCmLp N (mHere v a N) r i a1 w = mCmLp N (mHere v a N) K 0 a (u2 (sv v σ) 0 8 (mForm (mHere v a N)))) → WM g p l e rm_X11_command s m args below meth c Q tpl b n w 68 [some (.ref (b + 0)), some (.int (mHere v a N)), some (.int k2), some (.int (nI i))] [] := by
    intro r
    induction r with
    | zero =>
      intro k2 K i a1 w hK hk2 hKe hi ha1 h1 h6 h7 hR
      refine r_iload_n C dX11_command_68 rfl ?_
      refine r_iload_n C dX11_command_69 rfl ?_
      refine r_icmp_ge (tgt := 99) C dX11_command_70 rfl (fun c_70 => ?_) (fun c_70 => ?_)
      · skip
        refine r_aload_n C dX11_command_99 rfl ?_
        refine r_bipush C dX11_command_100 bp_59 ?_
        refine cvV_X11_180 C dX11_command_102 (c_X11_must hm N h6 hN80 a1 h7 (by omega) _) hm.1 (hm.k (by decide)) ⟨rfl, rfl⟩ rfl rfl rfl ?_
        have h1W : mMust w a1 N 59 1 = σ := (congrFun (rfl : mMust w a1 N 59 = mMust w a1 N 59) 1).trans ((mMust_o (by omega)).trans h1)
        have hC : mCmd v σ a N = mCmE (mMust w a1 N 59) σ (mHere v a N) := by rw [show mCmd v σ a N = mCmE (mMust (mCmLp N (mHere v a N) (mCnt (mHere v a N)) 0 a (u2 (sv v σ) 0 8 (mForm (mHere v a N)))).2 (mCmLp N (mHere v a N) (mCnt (mHere v a N)) 0 a (u2 (sv v σ) 0 8 (mForm (mHere v a N)))).1 N 59) σ (mHere v a N) from rfl, ← hKe, ← hR]; rfl
        generalize mMust w a1 N 59 = W at h1W hC
        refine r_aload_n C dX11_command_105 rfl ?_
        refine gf_X11_173 C dX11_command_106 hm.1 (hm.k (by decide)) ?_
        refine r_if_ne (tgt := 114) C dX11_command_109 rfl (fun c_109 => ?_) (fun c_109 => ?_)
        · skip
          rw [show W = sv W σ by rw [← h1W]; exact sv_id.symm]
          refine r_iload_n C dX11_command_114 rfl ?_
          by_cases s_97 : mHere v a N = 97
          · skip
            refine r_lsw (y := 97) (off := 41) (tgt := 156) C dX11_command_115 s_97 (by decide +kernel) rfl ?_
            refine r_aload_n C dX11_command_156 rfl ?_
            refine r_aload_n C dX11_command_157 rfl ?_
            refine gf_X11_25 C dX11_command_158 hm.1 (hm.k (by decide)) ?_
            refine r_iconst C dX11_command_161 ic_0 ?_
            refine r_iald C dX11_command_162 hm.2.2.2.2.2.2.1 (hm.k (by decide)) (j := 0) kn_0 (by omega) rfl ?_
            refine r_aload_n C dX11_command_163 rfl ?_
            refine gf_X11_25 C dX11_command_164 hm.1 (hm.k (by decide)) ?_
            refine r_iconst C dX11_command_167 ic_1 ?_
            refine r_iald C dX11_command_168 hm.2.2.2.2.2.2.1 (hm.k (by decide)) (j := 1) kn_1 (by omega) rfl ?_
            refine cvI_X11_136 C dX11_command_169 (c_X11_alerts hm hM.1 _ _) hm.1 (hm.k (by decide)) ⟨rfl, rfl⟩ rfl rfl rfl ?_
            exact hE _ _ _ _ dX11_command_172 (by rw [hC, mCmE, if_neg c_109, mOp, if_pos s_97]; exact And.intro rfl rfl)
          by_cases s_107 : mHere v a N = 107
          · skip
            refine r_lsw (y := 107) (off := 58) (tgt := 173) C dX11_command_115 s_107 (by decide +kernel) rfl ?_
            refine r_aload_n C dX11_command_173 rfl ?_
            refine r_aload_n C dX11_command_174 rfl ?_
            refine gf_X11_25 C dX11_command_175 hm.1 (hm.k (by decide)) ?_
            refine r_iconst C dX11_command_178 ic_0 ?_
            refine r_iald C dX11_command_179 hm.2.2.2.2.2.2.1 (hm.k (by decide)) (j := 0) kn_0 (by omega) rfl ?_
            refine cvI_X11_139 C dX11_command_180 (c_X11_acknowledges hm hM.1 _) hm.1 (hm.k (by decide)) ⟨rfl, rfl⟩ rfl rfl rfl ?_
            exact hE _ _ _ _ dX11_command_183 (by rw [hC, mCmE, if_neg c_109, mOp, if_neg s_97, if_pos s_107]; exact And.intro rfl rfl)
          by_cases s_111 : mHere v a N = 111
          · skip
            refine r_lsw (y := 111) (off := 80) (tgt := 195) C dX11_command_115 s_111 (by decide +kernel) rfl ?_
            refine r_aload_n C dX11_command_195 rfl ?_
            refine r_aload_n C dX11_command_196 rfl ?_
            refine gf_X11_25 C dX11_command_197 hm.1 (hm.k (by decide)) ?_
            refine r_iconst C dX11_command_200 ic_0 ?_
            refine r_iald C dX11_command_201 hm.2.2.2.2.2.2.1 (hm.k (by decide)) (j := 0) kn_0 (by omega) rfl ?_
            refine r_aload_n C dX11_command_202 rfl ?_
            refine gf_X11_25 C dX11_command_203 hm.1 (hm.k (by decide)) ?_
            refine r_iconst C dX11_command_206 ic_1 ?_
            refine r_iald C dX11_command_207 hm.2.2.2.2.2.2.1 (hm.k (by decide)) (j := 1) kn_1 (by omega) rfl ?_
            refine r_aload_n C dX11_command_208 rfl ?_
            refine gf_X11_25 C dX11_command_209 hm.1 (hm.k (by decide)) ?_
            refine r_iconst C dX11_command_212 ic_2 ?_
            refine r_iald C dX11_command_213 hm.2.2.2.2.2.2.1 (hm.k (by decide)) (j := 2) kn_2 (by omega) rfl ?_
            refine cvI_X11_133 C dX11_command_214 (c_X11_overrides hm hM.1 _ _ _) hm.1 (hm.k (by decide)) ⟨rfl, rfl⟩ rfl rfl rfl ?_
            exact hE _ _ _ _ dX11_command_217 (by rw [hC, mCmE, if_neg c_109, mOp, if_neg s_97, if_neg s_107, if_pos s_111]; exact And.intro rfl rfl)
          by_cases s_114 : mHere v a N = 114
          · skip
            refine r_lsw (y := 114) (off := 69) (tgt := 184) C dX11_command_115 s_114 (by decide +kernel) rfl ?_
            refine r_aload_n C dX11_command_184 rfl ?_
            refine r_aload_n C dX11_command_185 rfl ?_
            refine gf_X11_25 C dX11_command_186 hm.1 (hm.k (by decide)) ?_
            refine r_iconst C dX11_command_189 ic_0 ?_
            refine r_iald C dX11_command_190 hm.2.2.2.2.2.2.1 (hm.k (by decide)) (j := 0) kn_0 (by omega) rfl ?_
            refine cvI_X11_142 C dX11_command_191 (c_X11_resolves hm hM.1 _) hm.1 (hm.k (by decide)) ⟨rfl, rfl⟩ rfl rfl rfl ?_
            exact hE _ _ _ _ dX11_command_194 (by rw [hC, mCmE, if_neg c_109, mOp, if_neg s_97, if_neg s_107, if_neg (fun z => absurd (s_114.symm.trans z) (by decide +kernel)), if_pos s_114]; exact And.intro rfl rfl)
          refine r_lswd (tgt := 218) C dX11_command_115 (by simp [Op.lookupswitch.offset, show ¬ Int32.toInt (mHere v a N) = 97 from i32_ne (y := 97) s_97, show ¬ 97 = Int32.toInt (mHere v a N) from fun z => i32_ne (y := 97) s_97 z.symm, show ¬ Int32.toInt (mHere v a N) = 107 from i32_ne (y := 107) s_107, show ¬ 107 = Int32.toInt (mHere v a N) from fun z => i32_ne (y := 107) s_107 z.symm, show ¬ Int32.toInt (mHere v a N) = 111 from i32_ne (y := 111) s_111, show ¬ 111 = Int32.toInt (mHere v a N) from fun z => i32_ne (y := 111) s_111 z.symm, show ¬ Int32.toInt (mHere v a N) = 114 from i32_ne (y := 114) s_114, show ¬ 114 = Int32.toInt (mHere v a N) from fun z => i32_ne (y := 114) s_114 z.symm]) (by decide +kernel) rfl ?_
          refine r_aload_n C dX11_command_218 rfl ?_
          refine r_aload_n C dX11_command_219 rfl ?_
          refine gf_X11_25 C dX11_command_220 hm.1 (hm.k (by decide)) ?_
          refine r_iconst C dX11_command_223 ic_0 ?_
          refine r_iald C dX11_command_224 hm.2.2.2.2.2.2.1 (hm.k (by decide)) (j := 0) kn_0 (by omega) rfl ?_
          refine cvI_X11_145 C dX11_command_225 (c_X11_passes hm T hM hT _) hm.1 (hm.k (by decide)) ⟨rfl, rfl⟩ rfl rfl rfl ?_
          exact hE _ _ _ _ dX11_command_228 (by rw [hC, mCmE, if_neg c_109, mOp, if_neg s_97, if_neg s_107, if_neg s_111, if_neg s_114]; exact And.intro rfl rfl)
        · skip
          refine r_iconst C dX11_command_112 ic_0 ?_
          exact hE _ _ _ _ dX11_command_113 (by rw [hC, mCmE, if_pos c_109]; exact And.intro rfl rfl)
      · exact absurd c_70 (by rw [hk2]; exact nI_nlt (by omega) (by omega))
    | succ r ih_68 =>
      intro k2 K i a1 w hK hk2 hKe hi ha1 h1 h6 h7 hR
      refine r_iload_n C dX11_command_68 rfl ?_
      refine r_iload_n C dX11_command_69 rfl ?_
      refine r_icmp_ge (tgt := 99) C dX11_command_70 rfl (fun c_70 => ?_) (fun c_70 => ?_)
      · exact absurd (by rw [hk2]; exact nI_lt (by omega) (by omega)) c_70
      · skip
        refine r_aload_n C dX11_command_73 rfl ?_
        refine gf_X11_25 C dX11_command_74 hm.1 (hm.k (by decide)) ?_
        refine r_iload_n C dX11_command_77 rfl ?_
        refine r_aload_n C dX11_command_78 rfl ?_
        refine r_iload_n C dX11_command_79 rfl ?_
        refine r_if_ne (tgt := 87) C dX11_command_80 rfl (fun c_80 => ?_) (fun c_80 => ?_)
        · skip
          have es : mSep (mHere v a N) i = 44 := if_neg (fun z => c_80 ((na_eq rfl kn_0 (by omega) (by omega)).mpr z))
          obtain ⟨j, j3, j1, j7, jq, jf⟩ := mRd_ok (v := w) (a := a1) (N := N) (x := 44)
          refine r_bipush C dX11_command_87 bp_44 ?_
          refine cvI_X11_183 C dX11_command_89 (c_X11_readNumber hm N h6 hN80 a1 h7 (by omega) _) hm.1 (hm.k (by decide)) ⟨rfl, rfl⟩ rfl rfl rfl ?_
          refine r_iast C dX11_command_92 hm.2.2.2.2.2.2.1 (hm.k (by decide)) (j := i) rfl (by omega) rfl ?_
          refine r_iinc C dX11_command_93 rfl (nI_inc _) rfl ?_
          refine r_goto (tgt := 68) C dX11_command_96 rfl ?_
          exact ih_68 k2 K (i + 1) (a1 + 1 + j) _ hK hk2 hKe (by omega) (by omega) (by rw [u2_o (by omega), jq 1 (by omega)]; exact h1) (by rw [u2_o (by omega), jf 6 (by omega) (by omega)]; exact h6) (by rw [u2_o (by omega)]; exact j7) (by rw [← hR, mCmLp, es, j1])
        · skip
          have es : mSep (mHere v a N) i = mHere v a N := if_pos ((na_eq rfl kn_0 (by omega) (by omega)).mp c_80)
          obtain ⟨j, j3, j1, j7, jq, jf⟩ := mRd_ok (v := w) (a := a1) (N := N) (x := mHere v a N)
          refine r_iload_n C dX11_command_83 rfl ?_
          refine r_goto (tgt := 89) C dX11_command_84 rfl ?_
          refine cvI_X11_183 C dX11_command_89 (c_X11_readNumber hm N h6 hN80 a1 h7 (by omega) _) hm.1 (hm.k (by decide)) ⟨rfl, rfl⟩ rfl rfl rfl ?_
          refine r_iast C dX11_command_92 hm.2.2.2.2.2.2.1 (hm.k (by decide)) (j := i) rfl (by omega) rfl ?_
          refine r_iinc C dX11_command_93 rfl (nI_inc _) rfl ?_
          refine r_goto (tgt := 68) C dX11_command_96 rfl ?_
          exact ih_68 k2 K (i + 1) (a1 + 1 + j) _ hK hk2 hKe (by omega) (by omega) (by rw [u2_o (by omega), jq 1 (by omega)]; exact h1) (by rw [u2_o (by omega), jf 6 (by omega) (by omega)]; exact h6) (by rw [u2_o (by omega)]; exact j7) (by rw [← hR, mCmLp, es, j1])
  refine r_aload_n C dX11_command_0 rfl ?_
  refine cvI_X11_177 C dX11_command_1 (c_X11_here (v := sv v σ) hm N (by show v 0 6 = nI N; exact hN) hN80 a (by show v 0 7 = nI a; exact ha) (by omega)) hm.1 (hm.k (by decide)) ⟨rfl, rfl⟩ rfl rfl rfl ?_
  rw [show mHere (sv v σ) a N = mHere v a N from rfl]
  refine r_istore_n C dX11_command_4 rfl rfl ?_
  refine r_aload_n C dX11_command_5 rfl ?_
  refine r_iload_n C dX11_command_6 rfl ?_
  refine r_bipush C dX11_command_7 bp_97 ?_
  refine r_icmp_eq (tgt := 36) C dX11_command_9 rfl (fun c_9 => ?_) (fun c_9 => ?_)
  · skip
    refine r_iconst C dX11_command_36 ic_1 ?_
    refine r_goto (tgt := 41) C dX11_command_37 rfl ?_
    refine pf_X11_173 C (Or.inr rfl) dX11_command_41 hm.1 (hm.k (by decide)) ?_
    refine r_iload_n C dX11_command_44 rfl ?_
    refine r_bipush C dX11_command_45 bp_97 ?_
    refine r_icmp_ne (tgt := 54) C dX11_command_47 rfl (fun c_47 => ?_) (fun c_47 => ?_)
    · exact absurd c_9 c_47
    · skip
      refine r_iconst C dX11_command_50 ic_2 ?_
      refine r_goto (tgt := 65) C dX11_command_51 rfl ?_
      refine r_istore_n C dX11_command_65 rfl rfl ?_
      refine r_iconst C dX11_command_66 ic_0 ?_
      refine r_istore_n C dX11_command_67 rfl rfl ?_
      exact loop_68 (mCnt (mHere v a N)) _ (mCnt (mHere v a N)) 0 a _ mCnt_le (by rw [c_9]; decide +kernel) rfl (by omega) (by omega) (by rw [u2_o (by omega), sv_1]) (by rw [u2_r, upd_o (by omega), sv_o (by omega)]; exact hN) (by rw [u2_r, upd_o (by omega), sv_o (by omega)]; exact ha) (by rw [show mForm (mHere v a N) = 1 by rw [c_9]; decide +kernel])
  · skip
    refine r_iload_n C dX11_command_12 rfl ?_
    refine r_bipush C dX11_command_13 bp_107 ?_
    refine r_icmp_eq (tgt := 36) C dX11_command_15 rfl (fun c_15 => ?_) (fun c_15 => ?_)
    · skip
      refine r_iconst C dX11_command_36 ic_1 ?_
      refine r_goto (tgt := 41) C dX11_command_37 rfl ?_
      refine pf_X11_173 C (Or.inr rfl) dX11_command_41 hm.1 (hm.k (by decide)) ?_
      refine r_iload_n C dX11_command_44 rfl ?_
      refine r_bipush C dX11_command_45 bp_97 ?_
      refine r_icmp_ne (tgt := 54) C dX11_command_47 rfl (fun c_47 => ?_) (fun c_47 => ?_)
      · skip
        refine r_iload_n C dX11_command_54 rfl ?_
        refine r_bipush C dX11_command_55 bp_111 ?_
        refine r_icmp_ne (tgt := 64) C dX11_command_57 rfl (fun c_57 => ?_) (fun c_57 => ?_)
        · skip
          refine r_iconst C dX11_command_64 ic_1 ?_
          refine r_istore_n C dX11_command_65 rfl rfl ?_
          refine r_iconst C dX11_command_66 ic_0 ?_
          refine r_istore_n C dX11_command_67 rfl rfl ?_
          exact loop_68 (mCnt (mHere v a N)) _ (mCnt (mHere v a N)) 0 a _ mCnt_le (by rw [c_15]; decide +kernel) rfl (by omega) (by omega) (by rw [u2_o (by omega), sv_1]) (by rw [u2_r, upd_o (by omega), sv_o (by omega)]; exact hN) (by rw [u2_r, upd_o (by omega), sv_o (by omega)]; exact ha) (by rw [show mForm (mHere v a N) = 1 by rw [c_15]; decide +kernel])
        · exact absurd (c_15.symm.trans c_57) (by decide +kernel)
      · exact absurd c_47 c_9
    · skip
      refine r_iload_n C dX11_command_18 rfl ?_
      refine r_bipush C dX11_command_19 bp_114 ?_
      refine r_icmp_eq (tgt := 36) C dX11_command_21 rfl (fun c_21 => ?_) (fun c_21 => ?_)
      · skip
        refine r_iconst C dX11_command_36 ic_1 ?_
        refine r_goto (tgt := 41) C dX11_command_37 rfl ?_
        refine pf_X11_173 C (Or.inr rfl) dX11_command_41 hm.1 (hm.k (by decide)) ?_
        refine r_iload_n C dX11_command_44 rfl ?_
        refine r_bipush C dX11_command_45 bp_97 ?_
        refine r_icmp_ne (tgt := 54) C dX11_command_47 rfl (fun c_47 => ?_) (fun c_47 => ?_)
        · skip
          refine r_iload_n C dX11_command_54 rfl ?_
          refine r_bipush C dX11_command_55 bp_111 ?_
          refine r_icmp_ne (tgt := 64) C dX11_command_57 rfl (fun c_57 => ?_) (fun c_57 => ?_)
          · skip
            refine r_iconst C dX11_command_64 ic_1 ?_
            refine r_istore_n C dX11_command_65 rfl rfl ?_
            refine r_iconst C dX11_command_66 ic_0 ?_
            refine r_istore_n C dX11_command_67 rfl rfl ?_
            exact loop_68 (mCnt (mHere v a N)) _ (mCnt (mHere v a N)) 0 a _ mCnt_le (by rw [c_21]; decide +kernel) rfl (by omega) (by omega) (by rw [u2_o (by omega), sv_1]) (by rw [u2_r, upd_o (by omega), sv_o (by omega)]; exact hN) (by rw [u2_r, upd_o (by omega), sv_o (by omega)]; exact ha) (by rw [show mForm (mHere v a N) = 1 by rw [c_21]; decide +kernel])
          · exact absurd (c_21.symm.trans c_57) (by decide +kernel)
        · exact absurd c_47 c_9
      · skip
        refine r_iload_n C dX11_command_24 rfl ?_
        refine r_bipush C dX11_command_25 bp_111 ?_
        refine r_icmp_eq (tgt := 36) C dX11_command_27 rfl (fun c_27 => ?_) (fun c_27 => ?_)
        · skip
          refine r_iconst C dX11_command_36 ic_1 ?_
          refine r_goto (tgt := 41) C dX11_command_37 rfl ?_
          refine pf_X11_173 C (Or.inr rfl) dX11_command_41 hm.1 (hm.k (by decide)) ?_
          refine r_iload_n C dX11_command_44 rfl ?_
          refine r_bipush C dX11_command_45 bp_97 ?_
          refine r_icmp_ne (tgt := 54) C dX11_command_47 rfl (fun c_47 => ?_) (fun c_47 => ?_)
          · skip
            refine r_iload_n C dX11_command_54 rfl ?_
            refine r_bipush C dX11_command_55 bp_111 ?_
            refine r_icmp_ne (tgt := 64) C dX11_command_57 rfl (fun c_57 => ?_) (fun c_57 => ?_)
            · exact absurd c_27 c_57
            · skip
              refine r_iconst C dX11_command_60 ic_3 ?_
              refine r_goto (tgt := 65) C dX11_command_61 rfl ?_
              refine r_istore_n C dX11_command_65 rfl rfl ?_
              refine r_iconst C dX11_command_66 ic_0 ?_
              refine r_istore_n C dX11_command_67 rfl rfl ?_
              exact loop_68 (mCnt (mHere v a N)) _ (mCnt (mHere v a N)) 0 a _ mCnt_le (by rw [c_27]; decide +kernel) rfl (by omega) (by omega) (by rw [u2_o (by omega), sv_1]) (by rw [u2_r, upd_o (by omega), sv_o (by omega)]; exact hN) (by rw [u2_r, upd_o (by omega), sv_o (by omega)]; exact ha) (by rw [show mForm (mHere v a N) = 1 by rw [c_27]; decide +kernel])
          · exact absurd c_47 c_9
        · skip
          refine r_iload_n C dX11_command_30 rfl ?_
          refine r_bipush C dX11_command_31 bp_116 ?_
          refine r_icmp_ne (tgt := 40) C dX11_command_33 rfl (fun c_33 => ?_) (fun c_33 => ?_)
          · skip
            refine r_iconst C dX11_command_40 ic_0 ?_
            refine pf_X11_173 C (Or.inl rfl) dX11_command_41 hm.1 (hm.k (by decide)) ?_
            refine r_iload_n C dX11_command_44 rfl ?_
            refine r_bipush C dX11_command_45 bp_97 ?_
            refine r_icmp_ne (tgt := 54) C dX11_command_47 rfl (fun c_47 => ?_) (fun c_47 => ?_)
            · skip
              refine r_iload_n C dX11_command_54 rfl ?_
              refine r_bipush C dX11_command_55 bp_111 ?_
              refine r_icmp_ne (tgt := 64) C dX11_command_57 rfl (fun c_57 => ?_) (fun c_57 => ?_)
              · skip
                refine r_iconst C dX11_command_64 ic_1 ?_
                refine r_istore_n C dX11_command_65 rfl rfl ?_
                refine r_iconst C dX11_command_66 ic_0 ?_
                refine r_istore_n C dX11_command_67 rfl rfl ?_
                exact loop_68 (mCnt (mHere v a N)) _ (mCnt (mHere v a N)) 0 a _ mCnt_le (by rw [mCnt, if_neg c_47, if_neg c_57]; decide +kernel) rfl (by omega) (by omega) (by rw [u2_o (by omega), sv_1]) (by rw [u2_r, upd_o (by omega), sv_o (by omega)]; exact hN) (by rw [u2_r, upd_o (by omega), sv_o (by omega)]; exact ha) (by first | rw [show mForm (mHere v a N) = 1 by rw [c_33]; decide +kernel] | rw [mForm, if_neg c_9, if_neg c_15, if_neg c_21, if_neg c_27, if_neg c_33])
              · exact absurd c_57 c_27
            · exact absurd c_47 c_9
          · skip
            refine r_iconst C dX11_command_36 ic_1 ?_
            refine r_goto (tgt := 41) C dX11_command_37 rfl ?_
            refine pf_X11_173 C (Or.inr rfl) dX11_command_41 hm.1 (hm.k (by decide)) ?_
            refine r_iload_n C dX11_command_44 rfl ?_
            refine r_bipush C dX11_command_45 bp_97 ?_
            refine r_icmp_ne (tgt := 54) C dX11_command_47 rfl (fun c_47 => ?_) (fun c_47 => ?_)
            · skip
              refine r_iload_n C dX11_command_54 rfl ?_
              refine r_bipush C dX11_command_55 bp_111 ?_
              refine r_icmp_ne (tgt := 64) C dX11_command_57 rfl (fun c_57 => ?_) (fun c_57 => ?_)
              · skip
                refine r_iconst C dX11_command_64 ic_1 ?_
                refine r_istore_n C dX11_command_65 rfl rfl ?_
                refine r_iconst C dX11_command_66 ic_0 ?_
                refine r_istore_n C dX11_command_67 rfl rfl ?_
                exact loop_68 (mCnt (mHere v a N)) _ (mCnt (mHere v a N)) 0 a _ mCnt_le (by rw [mCnt, if_neg c_47, if_neg c_57]; decide +kernel) rfl (by omega) (by omega) (by rw [u2_o (by omega), sv_1]) (by rw [u2_r, upd_o (by omega), sv_o (by omega)]; exact hN) (by rw [u2_r, upd_o (by omega), sv_o (by omega)]; exact ha) (by first | rw [show mForm (mHere v a N) = 1 by rw [c_33]; decide +kernel] | rw [mForm, if_neg c_9, if_neg c_15, if_neg c_21, if_neg c_27, if_neg c_33])
              · exact absurd c_57 c_27
            · exact absurd c_47 c_9
