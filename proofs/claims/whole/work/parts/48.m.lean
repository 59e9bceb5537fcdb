/-! ===== the reference: later ===== -/
def mAsd (v : mV) (σ : Nat → Int32) (i : Nat) : Nat → Int32 := fun j => if j < i then σ j else v 3 j
theorem mAsd_s {v : mV} {σ : Nat → Int32} {i : Nat} : u2 (sv (cpR v 3 (mAsd v σ i)) σ) 3 i (σ i) = sv (cpR v 3 (mAsd v σ (i + 1))) σ := by
  rw [sv_u2o (by omega), cpR_u2]
  congr 2
  funext j
  by_cases h : j = i
  · subst h; rw [upd_r]; simp [mAsd]
  · rw [upd_o h]
    unfold mAsd
    by_cases h1 : j < i
    · rw [if_pos h1, if_pos (by omega)]
    · rw [if_neg h1, if_neg (by omega)]
theorem mAsd_0 {v : mV} {σ : Nat → Int32} : sv (cpR v 3 (mAsd v σ 0)) σ = sv v σ := by
  funext q
  by_cases h1 : q = 1
  · subst h1; rfl
  · rw [sv_o h1, sv_o h1]
    by_cases h2 : q = 3
    · subst h2
      rw [cpR_r]
      funext j
      simp [mAsd]
    · rw [cpR_o h2]
def mLt : Nat → Nat → (Nat → Int32) → Nat → Int32
  | 0, _, σ => σ
  | r + 1, j, σ => mLt r j (mMinOf (upd σ 2 (σ 2 + 1)) j)
def mLr (τ σ : Nat → Int32) (i : Nat) : Nat → Int32 := fun q => if q < i then σ q else τ q
theorem mLr_0 {τ σ : Nat → Int32} : mLr τ σ 0 = τ := by
  funext q
  simp [mLr]
theorem mLr_s {τ σ : Nat → Int32} {i : Nat} : upd (mLr τ σ i) i (σ i) = mLr τ σ (i + 1) := by
  funext j
  by_cases h : j = i
  · subst h; rw [upd_r]; simp [mLr]
  · rw [upd_o h]
    unfold mLr
    by_cases h1 : j < i
    · rw [if_pos h1, if_pos (by omega)]
    · rw [if_neg h1, if_neg (by omega)]
theorem mAsd_r {v : mV} {σ ρ : Nat → Int32} {i : Nat} (hi : i < 229) : sv (cpR v 3 (mAsd v σ 229)) ρ 3 i = σ i := by
  rw [sv_o (by omega), cpR_r]
  unfold mAsd
  rw [if_pos hi]
def mLvA (τ : Nat → Int32) (j : Nat) (z : Int32) : Int32 := if z = 0 then (if τ (101 + 16 * j + 4) = 0 then -4 else τ (101 + 16 * j + 4) - 1) else if z = 1 then τ (101 + 16 * j + 3) else τ (101 + 16 * j + 9)
def mLater (v : mV) (σ : Nat → Int32) (x y z : Int32) : Int32 × mV := if mInc σ x = 0 then (-1, sv v σ) else if mIn y 1 600 = 0 then (-1, sv v σ) else if mIn z 0 2 = 0 then (-1, sv v σ) else (mLvA (mLt y.toNatClampNeg x.toNatClampNeg σ) x.toNatClampNeg z, sv (cpR v 3 (mAsd v σ 229)) (mLr (mLt y.toNatClampNeg x.toNatClampNeg σ) σ 229))
theorem mLt_step {τ : Nat → Int32} {j T : Nat} (hI : MI τ) (hT : τ 2 = nI T) (hT2 : T < 31000) (hj : j < 8) (hL : ∃ l, l ≤ T ∧ τ (101 + 16 * j + 3) = nI l) : MI (upd τ 2 (τ 2 + 1)) ∧ (∃ l, l ≤ 60000 ∧ upd τ 2 (τ 2 + 1) (101 + 16 * j + 3) = nI l) ∧ MI (mMinOf (upd τ 2 (τ 2 + 1)) j) ∧ mMinOf (upd τ 2 (τ 2 + 1)) j 2 = nI (T + 1) ∧ ∃ l, l ≤ T + 1 ∧ mMinOf (upd τ 2 (τ 2 + 1)) j (101 + 16 * j + 3) = nI l := by
  have h1 : MI (upd τ 2 (τ 2 + 1)) := by rw [hT, nI_1]; exact MI_time hI (by omega)
  obtain ⟨l, hl, el⟩ := hL
  have h2 : upd τ 2 (τ 2 + 1) (101 + 16 * j + 3) = nI l := by rw [upd_o (by omega)]; exact el
  refine ⟨h1, ⟨l, by omega, h2⟩, mMinOf_MI h1 hj ⟨l, by omega, h2⟩, ?_, mMinOf_lvi h1 hj (by omega) ⟨l, hl, h2⟩⟩
  rw [mMinOf_2 h1 hj ⟨l, by omega, h2⟩, upd_r, hT, nI_1]
set_option maxRecDepth 100000 in
set_option maxHeartbeats 4000000 in
theorem c_X11_later {g : mG} {l : Launch} {tpl : mT} {b n : Nat} {v : mV} {σ : Nat → Int32} (hm : isM g tpl b n) (T : Nat) (hM : MT σ T T) (hT : T ≤ 30000) (x y z : Int32) : CT g l tpl b n yX11_later cX11_later 7 (some .int) rm_X11_later [.ref (b + 0), .int x, .int y, .int z] (sv v σ) (pI (mLater v σ x y z).1 (mLater v σ x y z).2) := by
  refine CT.introI [some (.ref (b + 0)), some (.int x), some (.int y), some (.int z), none, none, none] (own := RX11) (by decide +kernel) rfl rfl rfl rfl ?_
  intro p e s m args below meth c Q C hE
  refine r_aload_n C dX11_later_0 rfl ?_
  refine r_iload_n C dX11_later_1 rfl ?_
  refine cvI_X11_70 C dX11_later_2 (c_X11_isIncident hm _) hm.1 (hm.k (by decide)) ⟨rfl, rfl⟩ rfl rfl rfl ?_
  refine r_if_eq (tgt := 28) C dX11_later_5 rfl (fun c_5 => ?_) (fun c_5 => ?_)
  · skip
    refine r_iconst C dX11_later_28 ic_m1 ?_
    exact hE _ _ _ _ dX11_later_29 (by simp [pI, mLater, c_5])
  · skip
    obtain ⟨j, hj, rfl⟩ := mInc_of c_5
    have nc : (nI j).toNatClampNeg = j := nI_clamp (by omega)
    refine r_iload_n C dX11_later_8 rfl ?_
    refine r_iconst C dX11_later_9 ic_1 ?_
    refine r_sipush C dX11_later_10 sp_600 ?_
    refine cvI_X11_32 C dX11_later_13 (c_X11_in _ _ _) ⟨rfl, rfl⟩ rfl rfl rfl ?_
    refine r_if_eq (tgt := 28) C dX11_later_16 rfl (fun c_16 => ?_) (fun c_16 => ?_)
    · skip
      refine r_iconst C dX11_later_28 ic_m1 ?_
      exact hE _ _ _ _ dX11_later_29 (by simp [pI, mLater, c_5, c_16])
    · skip
      refine r_iload_n C dX11_later_19 rfl ?_
      refine r_iconst C dX11_later_20 ic_0 ?_
      refine r_iconst C dX11_later_21 ic_2 ?_
      refine cvI_X11_32 C dX11_later_22 (c_X11_in _ _ _) ⟨rfl, rfl⟩ rfl rfl rfl ?_
      refine r_if_ne (tgt := 30) C dX11_later_25 rfl (fun c_25 => ?_) (fun c_25 => ?_)
      · skip
        obtain ⟨M, hM6, rfl⟩ : ∃ M : Nat, M ≤ 600 ∧ y = nI M := mIn_600 c_16
        have nM : (nI M).toNatClampNeg = M := nI_clamp (by omega)
        have hF : mLater v σ (nI j) (nI M) z = (mLvA (mLt M j σ) j z, sv (cpR v 3 (mAsd v σ 229)) (mLr (mLt M j σ) σ 229)) := by rw [mLater, if_neg c_5, if_neg c_16, if_neg c_25, nM, nc]
        rw [← mAsd_0]
        refine r_iconst C dX11_later_30 ic_0 ?_
        refine r_istore C dX11_later_31 rfl rfl ?_
        have loop_33 : ∀ (r : Nat) (i : Nat), (i + r = 229) → WM g p l e rm_X11_later s m args below meth c Q tpl b n (sv (cpR v 3 (mAsd v σ i)) σ) 33 [some (.ref (b + 0)), some (.int (nI j)), some (.int (nI M)), some (.int z), some (.int (nI i)), none, none] [] := by
          intro r
          induction r with
          | zero =>
            intro i hi
            refine r_iload C dX11_later_33 rfl ?_
            refine r_sipush C dX11_later_35 sp_229 ?_
            refine r_icmp_ge (tgt := 61) C dX11_later_38 rfl (fun c_38 => ?_) (fun c_38 => ?_)
            · skip
              rw [show i = 229 by omega]
              refine r_iconst C dX11_later_61 ic_0 ?_
              refine r_istore C dX11_later_62 rfl rfl ?_
              have loop_64 : ∀ (r : Nat) (q : Nat) (τ : Nat → Int32), (q + r = M) → (MI τ) → (τ 2 = nI (T + q)) → (∃ l, l ≤ T + q ∧ τ (101 + 16 * j + 3) = nI l) → (mLt r j τ = mLt M j σ) → WM g p l e rm_X11_later s m args below meth c Q tpl b n (sv (cpR v 3 (mAsd v σ 229)) τ) 64 [some (.ref (b + 0)), some (.int (nI j)), some (.int (nI M)), some (.int z), some (.int (nI q)), none, none] [] := by
                intro r
                induction r with
                | zero =>
                  intro q τ hq hI hT2 hL hR
                  refine r_iload C dX11_later_64 rfl ?_
                  refine r_iload_n C dX11_later_66 rfl ?_
                  refine r_icmp_ge (tgt := 91) C dX11_later_67 rfl (fun c_67 => ?_) (fun c_67 => ?_)
                  · skip
                    skip
                    refine r_iload_n C dX11_later_91 rfl ?_
                    refine cvI_X11_36 C dX11_later_92 (c_X11_incidentAt _) ⟨rfl, rfl⟩ rfl rfl rfl ?_
                    refine r_istore C dX11_later_95 rfl rfl ?_
                    refine r_iload_n C dX11_later_97 rfl ?_
                    refine r_if_ne (tgt := 132) C dX11_later_98 rfl (fun c_98 => ?_) (fun c_98 => ?_)
                    · skip
                      refine r_iload_n C dX11_later_132 rfl ?_
                      refine r_iconst C dX11_later_133 ic_1 ?_
                      refine r_icmp_ne (tgt := 149) C dX11_later_134 rfl (fun c_134 => ?_) (fun c_134 => ?_)
                      · skip
                        refine r_aload_n C dX11_later_149 rfl ?_
                        refine gf_X11_7 C dX11_later_150 hm.1 (hm.k (by decide)) ?_
                        refine r_iload C dX11_later_153 rfl ?_
                        refine r_bipush C dX11_later_155 bp_9 ?_
                        refine r_iadd C dX11_later_157 ?_
                        refine r_sld C dX11_later_158 hm (j := ((101 + 16 * j) + 9)) (na_add (na_add kn_101 (na_mul kn_16 rfl)) kn_9) (by omega) ?_
                        refine r_istore C dX11_later_159 rfl rfl ?_
                        rw [← mLr_0 (τ := τ) (σ := σ)]
                        refine r_iconst C dX11_later_161 ic_0 ?_
                        refine r_istore C dX11_later_162 rfl rfl ?_
                        have loop_164 : ∀ (r : Nat) (k : Nat) (a : Int32), (k + r = 229) → (a = mLvA τ j z) → WM g p l e rm_X11_later s m args below meth c Q tpl b n (sv (cpR v 3 (mAsd v σ 229)) (mLr τ σ k)) 164 [some (.ref (b + 0)), some (.int (nI j)), some (.int (nI M)), some (.int z), some (.int (101 + 16 * nI j)), some (.int a), some (.int (nI k))] [] := by
                          intro r
                          induction r with
                          | zero =>
                            intro k a hk ha
                            refine r_iload C dX11_later_164 rfl ?_
                            refine r_sipush C dX11_later_166 sp_229 ?_
                            refine r_icmp_ge (tgt := 192) C dX11_later_169 rfl (fun c_169 => ?_) (fun c_169 => ?_)
                            · skip
                              rw [show k = 229 by omega]
                              refine r_iload C dX11_later_192 rfl ?_
                              exact hE _ _ _ _ dX11_later_194 (by rw [hF, ha, ← hR]; exact And.intro rfl rfl)
                            · exact absurd c_169 (nI_nlt (a := k) (b := 229) (by omega) (by omega))
                          | succ r ih_164 =>
                            intro k a hk ha
                            refine r_iload C dX11_later_164 rfl ?_
                            refine r_sipush C dX11_later_166 sp_229 ?_
                            refine r_icmp_ge (tgt := 192) C dX11_later_169 rfl (fun c_169 => ?_) (fun c_169 => ?_)
                            · exact absurd (nI_lt (a := k) (b := 229) (by omega) (by omega)) c_169
                            · skip
                              refine r_aload_n C dX11_later_172 rfl ?_
                              refine gf_X11_7 C dX11_later_173 hm.1 (hm.k (by decide)) ?_
                              refine r_iload C dX11_later_176 rfl ?_
                              refine r_aload_n C dX11_later_178 rfl ?_
                              refine gf_X11_16 C dX11_later_179 hm.1 (hm.k (by decide)) ?_
                              refine r_iload C dX11_later_182 rfl ?_
                              refine r_iald C dX11_later_184 hm.2.2.2.1 (hm.k (by decide)) (j := k) rfl (by omega) rfl ?_
                              rw [mAsd_r (by omega)]
                              refine r_sst C dX11_later_185 hm (j := k) rfl (by omega) ?_
                              rw [mLr_s]
                              refine r_iinc C dX11_later_186 rfl (nI_inc _) rfl ?_
                              refine r_goto (tgt := 164) C dX11_later_189 rfl ?_
                              exact ih_164 (k + 1) a (by omega) ha
                        exact loop_164 229 0 _ rfl (by unfold mLvA; simp [mLr_0, c_98, c_134])
                      · skip
                        refine r_aload_n C dX11_later_137 rfl ?_
                        refine gf_X11_7 C dX11_later_138 hm.1 (hm.k (by decide)) ?_
                        refine r_iload C dX11_later_141 rfl ?_
                        refine r_iconst C dX11_later_143 ic_3 ?_
                        refine r_iadd C dX11_later_144 ?_
                        refine r_sld C dX11_later_145 hm (j := ((101 + 16 * j) + 3)) (na_add (na_add kn_101 (na_mul kn_16 rfl)) kn_3) (by omega) ?_
                        refine r_goto (tgt := 159) C dX11_later_146 rfl ?_
                        refine r_istore C dX11_later_159 rfl rfl ?_
                        rw [← mLr_0 (τ := τ) (σ := σ)]
                        refine r_iconst C dX11_later_161 ic_0 ?_
                        refine r_istore C dX11_later_162 rfl rfl ?_
                        have loop_164 : ∀ (r : Nat) (k : Nat) (a : Int32), (k + r = 229) → (a = mLvA τ j z) → WM g p l e rm_X11_later s m args below meth c Q tpl b n (sv (cpR v 3 (mAsd v σ 229)) (mLr τ σ k)) 164 [some (.ref (b + 0)), some (.int (nI j)), some (.int (nI M)), some (.int z), some (.int (101 + 16 * nI j)), some (.int a), some (.int (nI k))] [] := by
                          intro r
                          induction r with
                          | zero =>
                            intro k a hk ha
                            refine r_iload C dX11_later_164 rfl ?_
                            refine r_sipush C dX11_later_166 sp_229 ?_
                            refine r_icmp_ge (tgt := 192) C dX11_later_169 rfl (fun c_169 => ?_) (fun c_169 => ?_)
                            · skip
                              rw [show k = 229 by omega]
                              refine r_iload C dX11_later_192 rfl ?_
                              exact hE _ _ _ _ dX11_later_194 (by rw [hF, ha, ← hR]; exact And.intro rfl rfl)
                            · exact absurd c_169 (nI_nlt (a := k) (b := 229) (by omega) (by omega))
                          | succ r ih_164 =>
                            intro k a hk ha
                            refine r_iload C dX11_later_164 rfl ?_
                            refine r_sipush C dX11_later_166 sp_229 ?_
                            refine r_icmp_ge (tgt := 192) C dX11_later_169 rfl (fun c_169 => ?_) (fun c_169 => ?_)
                            · exact absurd (nI_lt (a := k) (b := 229) (by omega) (by omega)) c_169
                            · skip
                              refine r_aload_n C dX11_later_172 rfl ?_
                              refine gf_X11_7 C dX11_later_173 hm.1 (hm.k (by decide)) ?_
                              refine r_iload C dX11_later_176 rfl ?_
                              refine r_aload_n C dX11_later_178 rfl ?_
                              refine gf_X11_16 C dX11_later_179 hm.1 (hm.k (by decide)) ?_
                              refine r_iload C dX11_later_182 rfl ?_
                              refine r_iald C dX11_later_184 hm.2.2.2.1 (hm.k (by decide)) (j := k) rfl (by omega) rfl ?_
                              rw [mAsd_r (by omega)]
                              refine r_sst C dX11_later_185 hm (j := k) rfl (by omega) ?_
                              rw [mLr_s]
                              refine r_iinc C dX11_later_186 rfl (nI_inc _) rfl ?_
                              refine r_goto (tgt := 164) C dX11_later_189 rfl ?_
                              exact ih_164 (k + 1) a (by omega) ha
                        exact loop_164 229 0 _ rfl (by unfold mLvA; simp [mLr_0, c_98, c_134])
                    · skip
                      refine r_aload_n C dX11_later_101 rfl ?_
                      refine gf_X11_7 C dX11_later_102 hm.1 (hm.k (by decide)) ?_
                      refine r_iload C dX11_later_105 rfl ?_
                      refine r_iconst C dX11_later_107 ic_4 ?_
                      refine r_iadd C dX11_later_108 ?_
                      refine r_sld C dX11_later_109 hm (j := ((101 + 16 * j) + 4)) (na_add (na_add kn_101 (na_mul kn_16 rfl)) kn_4) (by omega) ?_
                      refine r_if_ne (tgt := 118) C dX11_later_110 rfl (fun c_110 => ?_) (fun c_110 => ?_)
                      · skip
                        refine r_aload_n C dX11_later_118 rfl ?_
                        refine gf_X11_7 C dX11_later_119 hm.1 (hm.k (by decide)) ?_
                        refine r_iload C dX11_later_122 rfl ?_
                        refine r_iconst C dX11_later_124 ic_4 ?_
                        refine r_iadd C dX11_later_125 ?_
                        refine r_sld C dX11_later_126 hm (j := ((101 + 16 * j) + 4)) (na_add (na_add kn_101 (na_mul kn_16 rfl)) kn_4) (by omega) ?_
                        refine r_iconst C dX11_later_127 ic_1 ?_
                        refine r_isub C dX11_later_128 ?_
                        refine r_goto (tgt := 159) C dX11_later_129 rfl ?_
                        refine r_istore C dX11_later_159 rfl rfl ?_
                        rw [← mLr_0 (τ := τ) (σ := σ)]
                        refine r_iconst C dX11_later_161 ic_0 ?_
                        refine r_istore C dX11_later_162 rfl rfl ?_
                        have loop_164 : ∀ (r : Nat) (k : Nat) (a : Int32), (k + r = 229) → (a = mLvA τ j z) → WM g p l e rm_X11_later s m args below meth c Q tpl b n (sv (cpR v 3 (mAsd v σ 229)) (mLr τ σ k)) 164 [some (.ref (b + 0)), some (.int (nI j)), some (.int (nI M)), some (.int z), some (.int (101 + 16 * nI j)), some (.int a), some (.int (nI k))] [] := by
                          intro r
                          induction r with
                          | zero =>
                            intro k a hk ha
                            refine r_iload C dX11_later_164 rfl ?_
                            refine r_sipush C dX11_later_166 sp_229 ?_
                            refine r_icmp_ge (tgt := 192) C dX11_later_169 rfl (fun c_169 => ?_) (fun c_169 => ?_)
                            · skip
                              rw [show k = 229 by omega]
                              refine r_iload C dX11_later_192 rfl ?_
                              exact hE _ _ _ _ dX11_later_194 (by rw [hF, ha, ← hR]; exact And.intro rfl rfl)
                            · exact absurd c_169 (nI_nlt (a := k) (b := 229) (by omega) (by omega))
                          | succ r ih_164 =>
                            intro k a hk ha
                            refine r_iload C dX11_later_164 rfl ?_
                            refine r_sipush C dX11_later_166 sp_229 ?_
                            refine r_icmp_ge (tgt := 192) C dX11_later_169 rfl (fun c_169 => ?_) (fun c_169 => ?_)
                            · exact absurd (nI_lt (a := k) (b := 229) (by omega) (by omega)) c_169
                            · skip
                              refine r_aload_n C dX11_later_172 rfl ?_
                              refine gf_X11_7 C dX11_later_173 hm.1 (hm.k (by decide)) ?_
                              refine r_iload C dX11_later_176 rfl ?_
                              refine r_aload_n C dX11_later_178 rfl ?_
                              refine gf_X11_16 C dX11_later_179 hm.1 (hm.k (by decide)) ?_
                              refine r_iload C dX11_later_182 rfl ?_
                              refine r_iald C dX11_later_184 hm.2.2.2.1 (hm.k (by decide)) (j := k) rfl (by omega) rfl ?_
                              rw [mAsd_r (by omega)]
                              refine r_sst C dX11_later_185 hm (j := k) rfl (by omega) ?_
                              rw [mLr_s]
                              refine r_iinc C dX11_later_186 rfl (nI_inc _) rfl ?_
                              refine r_goto (tgt := 164) C dX11_later_189 rfl ?_
                              exact ih_164 (k + 1) a (by omega) ha
                        exact loop_164 229 0 _ rfl (by unfold mLvA; simp [mLr_0, c_98, c_110])
                      · skip
                        refine r_bipush C dX11_later_113 bp_m4 ?_
                        refine r_goto (tgt := 159) C dX11_later_115 rfl ?_
                        refine r_istore C dX11_later_159 rfl rfl ?_
                        rw [← mLr_0 (τ := τ) (σ := σ)]
                        refine r_iconst C dX11_later_161 ic_0 ?_
                        refine r_istore C dX11_later_162 rfl rfl ?_
                        have loop_164 : ∀ (r : Nat) (k : Nat) (a : Int32), (k + r = 229) → (a = mLvA τ j z) → WM g p l e rm_X11_later s m args below meth c Q tpl b n (sv (cpR v 3 (mAsd v σ 229)) (mLr τ σ k)) 164 [some (.ref (b + 0)), some (.int (nI j)), some (.int (nI M)), some (.int z), some (.int (101 + 16 * nI j)), some (.int a), some (.int (nI k))] [] := by
                          intro r
                          induction r with
                          | zero =>
                            intro k a hk ha
                            refine r_iload C dX11_later_164 rfl ?_
                            refine r_sipush C dX11_later_166 sp_229 ?_
                            refine r_icmp_ge (tgt := 192) C dX11_later_169 rfl (fun c_169 => ?_) (fun c_169 => ?_)
                            · skip
                              rw [show k = 229 by omega]
                              refine r_iload C dX11_later_192 rfl ?_
                              exact hE _ _ _ _ dX11_later_194 (by rw [hF, ha, ← hR]; exact And.intro rfl rfl)
                            · exact absurd c_169 (nI_nlt (a := k) (b := 229) (by omega) (by omega))
                          | succ r ih_164 =>
                            intro k a hk ha
                            refine r_iload C dX11_later_164 rfl ?_
                            refine r_sipush C dX11_later_166 sp_229 ?_
                            refine r_icmp_ge (tgt := 192) C dX11_later_169 rfl (fun c_169 => ?_) (fun c_169 => ?_)
                            · exact absurd (nI_lt (a := k) (b := 229) (by omega) (by omega)) c_169
                            · skip
                              refine r_aload_n C dX11_later_172 rfl ?_
                              refine gf_X11_7 C dX11_later_173 hm.1 (hm.k (by decide)) ?_
                              refine r_iload C dX11_later_176 rfl ?_
                              refine r_aload_n C dX11_later_178 rfl ?_
                              refine gf_X11_16 C dX11_later_179 hm.1 (hm.k (by decide)) ?_
                              refine r_iload C dX11_later_182 rfl ?_
                              refine r_iald C dX11_later_184 hm.2.2.2.1 (hm.k (by decide)) (j := k) rfl (by omega) rfl ?_
                              rw [mAsd_r (by omega)]
                              refine r_sst C dX11_later_185 hm (j := k) rfl (by omega) ?_
                              rw [mLr_s]
                              refine r_iinc C dX11_later_186 rfl (nI_inc _) rfl ?_
                              refine r_goto (tgt := 164) C dX11_later_189 rfl ?_
                              exact ih_164 (k + 1) a (by omega) ha
                        exact loop_164 229 0 _ rfl (by unfold mLvA; simp [mLr_0, c_98, c_110])
                  · exact absurd c_67 (nI_nlt (by omega) (by omega))
                | succ r ih_64 =>
                  intro q τ hq hI hT2 hL hR
                  refine r_iload C dX11_later_64 rfl ?_
                  refine r_iload_n C dX11_later_66 rfl ?_
                  refine r_icmp_ge (tgt := 91) C dX11_later_67 rfl (fun c_67 => ?_) (fun c_67 => ?_)
                  · exact absurd (nI_lt (by omega) (by omega)) c_67
                  · skip
                    refine r_aload_n C dX11_later_70 rfl ?_
                    refine gf_X11_7 C dX11_later_71 hm.1 (hm.k (by decide)) ?_
                    refine r_iconst C dX11_later_74 ic_2 ?_
                    refine r_dup2 C dX11_later_75 rfl rfl ?_
                    refine r_sld C dX11_later_76 hm (j := 2) kn_2 (by omega) ?_
                    refine r_iconst C dX11_later_77 ic_1 ?_
                    refine r_iadd C dX11_later_78 ?_
                    refine r_sst C dX11_later_79 hm (j := 2) kn_2 (by omega) ?_
                    obtain ⟨h1, h2, h3, h4, h5⟩ := mLt_step hI hT2 (by omega) hj hL
                    refine r_aload_n C dX11_later_80 rfl ?_
                    refine r_iload_n C dX11_later_81 rfl ?_
                    refine cvV_X11_74 C dX11_later_82 (c_X11_minuteOf hm h1 j hj h2) hm.1 (hm.k (by decide)) ⟨rfl, rfl⟩ rfl rfl rfl ?_
                    refine r_iinc C dX11_later_85 rfl (nI_inc _) rfl ?_
                    refine r_goto (tgt := 64) C dX11_later_88 rfl ?_
                    exact ih_64 (q + 1) _ (by omega) h3 h4 h5 (by rw [← hR]; rfl)
              exact loop_64 M 0 σ (by omega) hM.1 hM.2.1 (hM.2.2 j hj) rfl
            · exact absurd c_38 (nI_nlt (a := i) (b := 229) (by omega) (by omega))
          | succ r ih_33 =>
            intro i hi
            refine r_iload C dX11_later_33 rfl ?_
            refine r_sipush C dX11_later_35 sp_229 ?_
            refine r_icmp_ge (tgt := 61) C dX11_later_38 rfl (fun c_38 => ?_) (fun c_38 => ?_)
            · exact absurd (nI_lt (a := i) (b := 229) (by omega) (by omega)) c_38
            · skip
              refine r_aload_n C dX11_later_41 rfl ?_
              refine gf_X11_16 C dX11_later_42 hm.1 (hm.k (by decide)) ?_
              refine r_iload C dX11_later_45 rfl ?_
              refine r_aload_n C dX11_later_47 rfl ?_
              refine gf_X11_7 C dX11_later_48 hm.1 (hm.k (by decide)) ?_
              refine r_iload C dX11_later_51 rfl ?_
              refine r_sld C dX11_later_53 hm (j := i) rfl (by omega) ?_
              refine r_iast C dX11_later_54 hm.2.2.2.1 (hm.k (by decide)) (j := i) rfl (by omega) rfl ?_
              rw [mAsd_s]
              refine r_iinc C dX11_later_55 rfl (nI_inc _) rfl ?_
              refine r_goto (tgt := 33) C dX11_later_58 rfl ?_
              exact ih_33 (i + 1) (by omega)
        exact loop_33 229 0 rfl
      · skip
        refine r_iconst C dX11_later_28 ic_m1 ?_
        exact hE _ _ _ _ dX11_later_29 (by simp [pI, mLater, c_5, c_16, c_25])
