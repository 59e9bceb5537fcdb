set_option maxRecDepth 100000 in
set_option maxHeartbeats 4000000 in
theorem c_X11_opens {g : mG} {l : Launch} {tpl : mT} {b n : Nat} {v : mV} {σ : Nat → Int32} (hm : isM g tpl b n) (hI : MI σ) (x y : Int32) : CT g l tpl b n yX11_opens cX11_opens 6 (some .int) rm_X11_opens [.ref (b + 0), .int x, .int y] (sv v σ) (pI (mOpens σ x y).1 (sv v (mOpens σ x y).2)) := by
  refine CT.introI [some (.ref (b + 0)), some (.int x), some (.int y), none, none, none] (own := RX11) (by decide +kernel) rfl rfl rfl rfl ?_
  intro p e s m args below meth c Q C hE
  refine r_aload_n C dX11_opens_0 rfl ?_
  refine cvI_X11_96 C dX11_opens_1 (c_X11_lowestFree hm) hm.1 (hm.k (by decide)) ⟨rfl, rfl⟩ rfl rfl rfl ?_
  refine r_istore_n C dX11_opens_4 rfl rfl ?_
  refine r_iload_n C dX11_opens_5 rfl ?_
  refine r_if_ge (tgt := 12) C dX11_opens_6 rfl (fun c_6 => ?_) (fun c_6 => ?_)
  · skip
    obtain ⟨j, hj, ej⟩ : ∃ j, j < 8 ∧ mFreeLp σ 8 (-1) = nI j := (mFreeLp_or σ 8 (-1) (by omega) (Or.inl rfl)).resolve_left (fun z => c_6 (by rw [z]; decide))
    have nj : (mFreeLp σ 8 (-1)).toNatClampNeg = j := by rw [ej]; exact nI_clamp (by omega)
    have hO : mOpens σ x y = (mFreeLp σ 8 (-1), mPage (mNew σ j x y) j) := by rw [mOpens, if_neg c_6, nj]
    rw [ej]
    refine r_iload_n C dX11_opens_12 rfl ?_
    refine cvI_X11_36 C dX11_opens_13 (c_X11_incidentAt _) ⟨rfl, rfl⟩ rfl rfl rfl ?_
    refine r_istore C dX11_opens_16 rfl rfl ?_
    refine r_iconst C dX11_opens_18 ic_0 ?_
    refine r_istore C dX11_opens_19 rfl rfl ?_
    have loop_21 : ∀ (r : Nat) (i : Nat) (τ : Nat → Int32), (i + r = 16) → (mZeroLp j r i τ = mZeroLp j 16 0 σ) → WM g p l e rm_X11_opens s m args below meth c Q tpl b n (sv v τ) 21 [some (.ref (b + 0)), some (.int x), some (.int y), some (.int (nI j)), some (.int (101 + 16 * nI j)), some (.int (nI i))] [] := by
      intro r
      induction r with
      | zero =>
        intro i τ hi hR
        refine r_iload C dX11_opens_21 rfl ?_
        refine r_bipush C dX11_opens_23 bp_16 ?_
        refine r_icmp_ge (tgt := 45) C dX11_opens_25 rfl (fun c_25 => ?_) (fun c_25 => ?_)
        · skip
          have e16 : τ = mZeroLp j 16 0 σ := hR
          subst e16
          have h2 : mZeroLp j 16 0 σ 2 = σ 2 := mZeroLp_o 16 0 σ (by omega)
          have h3 : mZeroLp j 16 0 σ 3 = σ 3 := mZeroLp_o 16 0 σ (by omega)
          refine r_aload_n C dX11_opens_45 rfl ?_
          refine gf_X11_7 C dX11_opens_46 hm.1 (hm.k (by decide)) ?_
          refine r_iload C dX11_opens_49 rfl ?_
          refine r_iconst C dX11_opens_51 ic_0 ?_
          refine r_iadd C dX11_opens_52 ?_
          refine r_iconst C dX11_opens_53 ic_1 ?_
          refine r_sst C dX11_opens_54 hm (j := (101 + 16 * j)) (na_add0 (na_add kn_101 (na_mul kn_16 rfl)) kn_0) (by omega) ?_
          refine r_aload_n C dX11_opens_55 rfl ?_
          refine gf_X11_7 C dX11_opens_56 hm.1 (hm.k (by decide)) ?_
          refine r_iload C dX11_opens_59 rfl ?_
          refine r_iconst C dX11_opens_61 ic_1 ?_
          refine r_iadd C dX11_opens_62 ?_
          refine r_iload_n C dX11_opens_63 rfl ?_
          refine r_sst C dX11_opens_64 hm (j := ((101 + 16 * j) + 1)) (na_add (na_add kn_101 (na_mul kn_16 rfl)) kn_1) (by omega) ?_
          refine r_aload_n C dX11_opens_65 rfl ?_
          refine gf_X11_7 C dX11_opens_66 hm.1 (hm.k (by decide)) ?_
          refine r_iload C dX11_opens_69 rfl ?_
          refine r_iconst C dX11_opens_71 ic_2 ?_
          refine r_iadd C dX11_opens_72 ?_
          refine r_iload_n C dX11_opens_73 rfl ?_
          refine r_sst C dX11_opens_74 hm (j := ((101 + 16 * j) + 2)) (na_add (na_add kn_101 (na_mul kn_16 rfl)) kn_2) (by omega) ?_
          refine r_aload_n C dX11_opens_75 rfl ?_
          refine gf_X11_7 C dX11_opens_76 hm.1 (hm.k (by decide)) ?_
          refine r_iload C dX11_opens_79 rfl ?_
          refine r_bipush C dX11_opens_81 bp_6 ?_
          refine r_iadd C dX11_opens_83 ?_
          refine r_iconst C dX11_opens_84 ic_1 ?_
          refine r_sst C dX11_opens_85 hm (j := ((101 + 16 * j) + 6)) (na_add (na_add kn_101 (na_mul kn_16 rfl)) kn_6) (by omega) ?_
          refine r_aload_n C dX11_opens_86 rfl ?_
          refine gf_X11_7 C dX11_opens_87 hm.1 (hm.k (by decide)) ?_
          refine r_iload C dX11_opens_90 rfl ?_
          refine r_bipush C dX11_opens_92 bp_7 ?_
          refine r_iadd C dX11_opens_94 ?_
          refine r_aload_n C dX11_opens_95 rfl ?_
          refine gf_X11_7 C dX11_opens_96 hm.1 (hm.k (by decide)) ?_
          refine r_iconst C dX11_opens_99 ic_2 ?_
          refine r_sld C dX11_opens_100 hm (j := 2) kn_2 (by omega) ?_
          refine r_sst C dX11_opens_101 hm (j := ((101 + 16 * j) + 7)) (na_add (na_add kn_101 (na_mul kn_16 rfl)) kn_7) (by omega) ?_
          refine r_aload_n C dX11_opens_102 rfl ?_
          refine gf_X11_7 C dX11_opens_103 hm.1 (hm.k (by decide)) ?_
          refine r_iload C dX11_opens_106 rfl ?_
          refine r_bipush C dX11_opens_108 bp_8 ?_
          refine r_iadd C dX11_opens_110 ?_
          refine r_aload_n C dX11_opens_111 rfl ?_
          refine gf_X11_7 C dX11_opens_112 hm.1 (hm.k (by decide)) ?_
          refine r_iconst C dX11_opens_115 ic_2 ?_
          refine r_sld C dX11_opens_116 hm (j := 2) kn_2 (by omega) ?_
          refine r_sst C dX11_opens_117 hm (j := ((101 + 16 * j) + 8)) (na_add (na_add kn_101 (na_mul kn_16 rfl)) kn_8) (by omega) ?_
          refine r_aload_n C dX11_opens_118 rfl ?_
          refine gf_X11_7 C dX11_opens_119 hm.1 (hm.k (by decide)) ?_
          refine r_iconst C dX11_opens_122 ic_3 ?_
          refine r_dup2 C dX11_opens_123 rfl rfl ?_
          refine r_sld C dX11_opens_124 hm (j := 3) kn_3 (by omega) ?_
          refine r_iconst C dX11_opens_125 ic_1 ?_
          refine r_iadd C dX11_opens_126 ?_
          refine r_sst C dX11_opens_127 hm (j := 3) kn_3 (by omega) ?_
          simp (disch := omega) only [upd_o, upd_r, h2, h3]
          change WM g p l e _ s m args below meth c Q tpl b n (sv v (mNew σ j x y)) _ _ _
          refine r_aload_n C dX11_opens_128 rfl ?_
          refine r_iload_n C dX11_opens_129 rfl ?_
          refine cvV_X11_66 C dX11_opens_130 (c_X11_pages hm (MI_new hI) j hj) hm.1 (hm.k (by decide)) ⟨rfl, rfl⟩ rfl rfl rfl ?_
          refine r_iload_n C dX11_opens_133 rfl ?_
          exact hE _ _ _ _ dX11_opens_134 (And.intro (by rw [hO, ej]) (by rw [hO]))
        · exact absurd c_25 (nI_nlt (a := i) (b := 16) (by omega) (by omega))
      | succ r ih_21 =>
        intro i τ hi hR
        refine r_iload C dX11_opens_21 rfl ?_
        refine r_bipush C dX11_opens_23 bp_16 ?_
        refine r_icmp_ge (tgt := 45) C dX11_opens_25 rfl (fun c_25 => ?_) (fun c_25 => ?_)
        · exact absurd (nI_lt (a := i) (b := 16) (by omega) (by omega)) c_25
        · skip
          refine r_aload_n C dX11_opens_28 rfl ?_
          refine gf_X11_7 C dX11_opens_29 hm.1 (hm.k (by decide)) ?_
          refine r_iload C dX11_opens_32 rfl ?_
          refine r_iload C dX11_opens_34 rfl ?_
          refine r_iadd C dX11_opens_36 ?_
          refine r_iconst C dX11_opens_37 ic_0 ?_
          refine r_sst C dX11_opens_38 hm (j := ((101 + 16 * j) + i)) (na_add (na_add kn_101 (na_mul kn_16 rfl)) rfl) (by omega) ?_
          refine r_iinc C dX11_opens_39 rfl (nI_inc _) rfl ?_
          refine r_goto (tgt := 21) C dX11_opens_42 rfl ?_
          exact ih_21 (i + 1) _ (by omega) (by rw [← hR]; rfl)
    exact loop_21 16 0 σ rfl rfl
  · skip
    refine r_bipush C dX11_opens_9 bp_m3 ?_
    exact hE _ _ _ _ dX11_opens_11 (by simp [pI, mOpens, c_6])
set_option maxRecDepth 100000 in
set_option maxHeartbeats 4000000 in
theorem c_X11_alerts {g : mG} {l : Launch} {tpl : mT} {b n : Nat} {v : mV} {σ : Nat → Int32} (hm : isM g tpl b n) (hI : MI σ) (x y : Int32) : CT g l tpl b n yX11_alerts cX11_alerts 6 (some .int) rm_X11_alerts [.ref (b + 0), .int x, .int y] (sv v σ) (pI (mAlerts σ x y).1 (sv v (mAlerts σ x y).2)) := by
  refine CT.introI [some (.ref (b + 0)), some (.int x), some (.int y), none, none, none] (own := RX11) (by decide +kernel) rfl rfl rfl rfl ?_
  intro p e s m args below meth c Q C hE
  refine r_iload_n C dX11_alerts_0 rfl ?_
  refine r_iconst C dX11_alerts_1 ic_0 ?_
  refine r_bipush C dX11_alerts_2 bp_19 ?_
  refine cvI_X11_32 C dX11_alerts_4 (c_X11_in _ _ _) ⟨rfl, rfl⟩ rfl rfl rfl ?_
  refine r_if_eq (tgt := 19) C dX11_alerts_7 rfl (fun c_7 => ?_) (fun c_7 => ?_)
  · skip
    refine r_iconst C dX11_alerts_19 ic_m1 ?_
    exact hE _ _ _ _ dX11_alerts_20 (by simp [pI, mAlerts, c_7])
  · skip
    refine r_iload_n C dX11_alerts_10 rfl ?_
    refine r_iconst C dX11_alerts_11 ic_0 ?_
    refine r_iconst C dX11_alerts_12 ic_2 ?_
    refine cvI_X11_32 C dX11_alerts_13 (c_X11_in _ _ _) ⟨rfl, rfl⟩ rfl rfl rfl ?_
    refine r_if_ne (tgt := 21) C dX11_alerts_16 rfl (fun c_16 => ?_) (fun c_16 => ?_)
    · skip
      refine r_aload_n C dX11_alerts_21 rfl ?_
      refine r_iload_n C dX11_alerts_22 rfl ?_
      refine cvI_X11_99 C dX11_alerts_23 (c_X11_foldsInto hm _) hm.1 (hm.k (by decide)) ⟨rfl, rfl⟩ rfl rfl rfl ?_
      refine r_istore_n C dX11_alerts_26 rfl rfl ?_
      refine r_iload_n C dX11_alerts_27 rfl ?_
      refine r_if_ge (tgt := 38) C dX11_alerts_28 rfl (fun c_28 => ?_) (fun c_28 => ?_)
      · skip
        obtain ⟨j, hj, ej⟩ : ∃ j, j < 8 ∧ mFolLp σ x 8 0 = nI j := (mFolLp_or σ x 8 0 rfl).resolve_left (fun z => c_28 (by rw [z]; decide))
        have nj : (mFolLp σ x 8 0).toNatClampNeg = j := by rw [ej]; exact nI_clamp (by omega)
        have hO : mAlerts σ x y = (mFolLp σ x 8 0, if σ (101 + 16 * j + 2) < y then (if σ (101 + 16 * j + 4) = 0 then mPage (mFold σ j y) j else mFold σ j y) else mFold σ j y) := by rw [mAlerts, if_neg c_7, if_neg c_16, if_neg c_28, nj]
        rw [ej]
        refine r_iload_n C dX11_alerts_38 rfl ?_
        refine cvI_X11_36 C dX11_alerts_39 (c_X11_incidentAt _) ⟨rfl, rfl⟩ rfl rfl rfl ?_
        refine r_istore C dX11_alerts_42 rfl rfl ?_
        refine r_iload_n C dX11_alerts_44 rfl ?_
        refine r_aload_n C dX11_alerts_45 rfl ?_
        refine gf_X11_7 C dX11_alerts_46 hm.1 (hm.k (by decide)) ?_
        refine r_iload C dX11_alerts_49 rfl ?_
        refine r_iconst C dX11_alerts_51 ic_2 ?_
        refine r_iadd C dX11_alerts_52 ?_
        refine r_sld C dX11_alerts_53 hm (j := ((101 + 16 * j) + 2)) (na_add (na_add kn_101 (na_mul kn_16 rfl)) kn_2) (by omega) ?_
        refine r_icmp_le (tgt := 61) C dX11_alerts_54 rfl (fun c_54 => ?_) (fun c_54 => ?_)
        · skip
          refine r_iconst C dX11_alerts_61 ic_0 ?_
          refine r_istore C dX11_alerts_62 rfl rfl ?_
          refine r_aload_n C dX11_alerts_64 rfl ?_
          refine gf_X11_7 C dX11_alerts_65 hm.1 (hm.k (by decide)) ?_
          refine r_iload C dX11_alerts_68 rfl ?_
          refine r_iconst C dX11_alerts_70 ic_2 ?_
          refine r_iadd C dX11_alerts_71 ?_
          refine r_iload C dX11_alerts_72 rfl ?_
          refine r_if_eq (tgt := 81) C dX11_alerts_74 rfl (fun c_74 => ?_) (fun c_74 => ?_)
          · skip
            refine r_aload_n C dX11_alerts_81 rfl ?_
            refine gf_X11_7 C dX11_alerts_82 hm.1 (hm.k (by decide)) ?_
            refine r_iload C dX11_alerts_85 rfl ?_
            refine r_iconst C dX11_alerts_87 ic_2 ?_
            refine r_iadd C dX11_alerts_88 ?_
            refine r_sld C dX11_alerts_89 hm (j := ((101 + 16 * j) + 2)) (na_add (na_add kn_101 (na_mul kn_16 rfl)) kn_2) (by omega) ?_
            refine r_sst C dX11_alerts_90 hm (j := ((101 + 16 * j) + 2)) (na_add (na_add kn_101 (na_mul kn_16 rfl)) kn_2) (by omega) ?_
            refine r_aload_n C dX11_alerts_91 rfl ?_
            refine gf_X11_7 C dX11_alerts_92 hm.1 (hm.k (by decide)) ?_
            refine r_iload C dX11_alerts_95 rfl ?_
            refine r_bipush C dX11_alerts_97 bp_8 ?_
            refine r_iadd C dX11_alerts_99 ?_
            refine r_aload_n C dX11_alerts_100 rfl ?_
            refine gf_X11_7 C dX11_alerts_101 hm.1 (hm.k (by decide)) ?_
            refine r_iconst C dX11_alerts_104 ic_2 ?_
            refine r_sld C dX11_alerts_105 hm (j := 2) kn_2 (by omega) ?_
            refine r_sst C dX11_alerts_106 hm (j := ((101 + 16 * j) + 8)) (na_add (na_add kn_101 (na_mul kn_16 rfl)) kn_8) (by omega) ?_
            refine r_aload_n C dX11_alerts_107 rfl ?_
            refine gf_X11_7 C dX11_alerts_108 hm.1 (hm.k (by decide)) ?_
            refine r_iload C dX11_alerts_111 rfl ?_
            refine r_bipush C dX11_alerts_113 bp_6 ?_
            refine r_iadd C dX11_alerts_115 ?_
            refine r_dup2 C dX11_alerts_116 rfl rfl ?_
            refine r_sld C dX11_alerts_117 hm (j := ((101 + 16 * j) + 6)) (na_add (na_add kn_101 (na_mul kn_16 rfl)) kn_6) (by omega) ?_
            refine r_iconst C dX11_alerts_118 ic_1 ?_
            refine r_iadd C dX11_alerts_119 ?_
            refine r_sst C dX11_alerts_120 hm (j := ((101 + 16 * j) + 6)) (na_add (na_add kn_101 (na_mul kn_16 rfl)) kn_6) (by omega) ?_
            refine r_aload_n C dX11_alerts_121 rfl ?_
            refine gf_X11_7 C dX11_alerts_122 hm.1 (hm.k (by decide)) ?_
            refine r_iconst C dX11_alerts_125 ic_3 ?_
            refine r_dup2 C dX11_alerts_126 rfl rfl ?_
            refine r_sld C dX11_alerts_127 hm (j := 3) kn_3 (by omega) ?_
            refine r_iconst C dX11_alerts_128 ic_1 ?_
            refine r_iadd C dX11_alerts_129 ?_
            refine r_sst C dX11_alerts_130 hm (j := 3) kn_3 (by omega) ?_
            refine r_aload_n C dX11_alerts_131 rfl ?_
            refine gf_X11_7 C dX11_alerts_132 hm.1 (hm.k (by decide)) ?_
            refine r_iconst C dX11_alerts_135 ic_4 ?_
            refine r_dup2 C dX11_alerts_136 rfl rfl ?_
            refine r_sld C dX11_alerts_137 hm (j := 4) kn_4 (by omega) ?_
            refine r_iconst C dX11_alerts_138 ic_1 ?_
            refine r_iadd C dX11_alerts_139 ?_
            refine r_sst C dX11_alerts_140 hm (j := 4) kn_4 (by omega) ?_
            simp (disch := omega) only [upd_o, upd_r]
            have hF : ∀ z, z = (if σ (101 + 16 * j + 2) < y then y else σ (101 + 16 * j + 2)) → upd (upd (upd (upd (upd σ (101 + 16 * j + 2) z) (101 + 16 * j + 8) (σ 2)) (101 + 16 * j + 6) (σ (101 + 16 * j + 6) + 1)) 3 (σ 3 + 1)) 4 (σ 4 + 1) = mFold σ j y := fun z hz => by rw [mFold, ← hz]
            rw [hF _ (by first | exact (if_pos c_54).symm | exact (if_neg c_54).symm)]
            refine r_iload C dX11_alerts_141 rfl ?_
            refine r_if_eq (tgt := 163) C dX11_alerts_143 rfl (fun c_143 => ?_) (fun c_143 => ?_)
            · skip
              refine r_iload_n C dX11_alerts_163 rfl ?_
              exact hE _ _ _ _ dX11_alerts_164 (And.intro (by rw [hO, ej]) (by rw [hO]; simp only [c_7, c_16, c_28, c_54, if_true, if_false]))
            · exact absurd c_143 (by decide)
          · exact absurd c_74 (by decide)
        · skip
          refine r_iconst C dX11_alerts_57 ic_1 ?_
          refine r_goto (tgt := 62) C dX11_alerts_58 rfl ?_
          refine r_istore C dX11_alerts_62 rfl rfl ?_
          refine r_aload_n C dX11_alerts_64 rfl ?_
          refine gf_X11_7 C dX11_alerts_65 hm.1 (hm.k (by decide)) ?_
          refine r_iload C dX11_alerts_68 rfl ?_
          refine r_iconst C dX11_alerts_70 ic_2 ?_
          refine r_iadd C dX11_alerts_71 ?_
          refine r_iload C dX11_alerts_72 rfl ?_
          refine r_if_eq (tgt := 81) C dX11_alerts_74 rfl (fun c_74 => ?_) (fun c_74 => ?_)
          · exact absurd c_74 (by decide)
          · skip
            refine r_iload_n C dX11_alerts_77 rfl ?_
            refine r_goto (tgt := 90) C dX11_alerts_78 rfl ?_
            refine r_sst C dX11_alerts_90 hm (j := ((101 + 16 * j) + 2)) (na_add (na_add kn_101 (na_mul kn_16 rfl)) kn_2) (by omega) ?_
            refine r_aload_n C dX11_alerts_91 rfl ?_
            refine gf_X11_7 C dX11_alerts_92 hm.1 (hm.k (by decide)) ?_
            refine r_iload C dX11_alerts_95 rfl ?_
            refine r_bipush C dX11_alerts_97 bp_8 ?_
            refine r_iadd C dX11_alerts_99 ?_
            refine r_aload_n C dX11_alerts_100 rfl ?_
            refine gf_X11_7 C dX11_alerts_101 hm.1 (hm.k (by decide)) ?_
            refine r_iconst C dX11_alerts_104 ic_2 ?_
            refine r_sld C dX11_alerts_105 hm (j := 2) kn_2 (by omega) ?_
            refine r_sst C dX11_alerts_106 hm (j := ((101 + 16 * j) + 8)) (na_add (na_add kn_101 (na_mul kn_16 rfl)) kn_8) (by omega) ?_
            refine r_aload_n C dX11_alerts_107 rfl ?_
            refine gf_X11_7 C dX11_alerts_108 hm.1 (hm.k (by decide)) ?_
            refine r_iload C dX11_alerts_111 rfl ?_
            refine r_bipush C dX11_alerts_113 bp_6 ?_
            refine r_iadd C dX11_alerts_115 ?_
            refine r_dup2 C dX11_alerts_116 rfl rfl ?_
            refine r_sld C dX11_alerts_117 hm (j := ((101 + 16 * j) + 6)) (na_add (na_add kn_101 (na_mul kn_16 rfl)) kn_6) (by omega) ?_
            refine r_iconst C dX11_alerts_118 ic_1 ?_
            refine r_iadd C dX11_alerts_119 ?_
            refine r_sst C dX11_alerts_120 hm (j := ((101 + 16 * j) + 6)) (na_add (na_add kn_101 (na_mul kn_16 rfl)) kn_6) (by omega) ?_
            refine r_aload_n C dX11_alerts_121 rfl ?_
            refine gf_X11_7 C dX11_alerts_122 hm.1 (hm.k (by decide)) ?_
            refine r_iconst C dX11_alerts_125 ic_3 ?_
            refine r_dup2 C dX11_alerts_126 rfl rfl ?_
            refine r_sld C dX11_alerts_127 hm (j := 3) kn_3 (by omega) ?_
            refine r_iconst C dX11_alerts_128 ic_1 ?_
            refine r_iadd C dX11_alerts_129 ?_
            refine r_sst C dX11_alerts_130 hm (j := 3) kn_3 (by omega) ?_
            refine r_aload_n C dX11_alerts_131 rfl ?_
            refine gf_X11_7 C dX11_alerts_132 hm.1 (hm.k (by decide)) ?_
            refine r_iconst C dX11_alerts_135 ic_4 ?_
            refine r_dup2 C dX11_alerts_136 rfl rfl ?_
            refine r_sld C dX11_alerts_137 hm (j := 4) kn_4 (by omega) ?_
            refine r_iconst C dX11_alerts_138 ic_1 ?_
            refine r_iadd C dX11_alerts_139 ?_
            refine r_sst C dX11_alerts_140 hm (j := 4) kn_4 (by omega) ?_
            simp (disch := omega) only [upd_o, upd_r]
            have hF : ∀ z, z = (if σ (101 + 16 * j + 2) < y then y else σ (101 + 16 * j + 2)) → upd (upd (upd (upd (upd σ (101 + 16 * j + 2) z) (101 + 16 * j + 8) (σ 2)) (101 + 16 * j + 6) (σ (101 + 16 * j + 6) + 1)) 3 (σ 3 + 1)) 4 (σ 4 + 1) = mFold σ j y := fun z hz => by rw [mFold, ← hz]
            rw [hF _ (by first | exact (if_pos c_54).symm | exact (if_neg c_54).symm)]
            refine r_iload C dX11_alerts_141 rfl ?_
            refine r_if_eq (tgt := 163) C dX11_alerts_143 rfl (fun c_143 => ?_) (fun c_143 => ?_)
            · exact absurd c_143 (by decide)
            · skip
              refine r_aload_n C dX11_alerts_146 rfl ?_
              refine gf_X11_7 C dX11_alerts_147 hm.1 (hm.k (by decide)) ?_
              refine r_iload C dX11_alerts_150 rfl ?_
              refine r_iconst C dX11_alerts_152 ic_4 ?_
              refine r_iadd C dX11_alerts_153 ?_
              refine r_sld C dX11_alerts_154 hm (j := ((101 + 16 * j) + 4)) (na_add (na_add kn_101 (na_mul kn_16 rfl)) kn_4) (by omega) ?_
              refine r_if_ne (tgt := 163) C dX11_alerts_155 rfl (fun c_155 => ?_) (fun c_155 => ?_)
              · skip
                rw [mFold_4] at c_155
                refine r_iload_n C dX11_alerts_163 rfl ?_
                exact hE _ _ _ _ dX11_alerts_164 (And.intro (by rw [hO, ej]) (by rw [hO]; simp only [c_7, c_16, c_28, c_54, c_155, if_true, if_false]))
              · skip
                rw [mFold_4] at c_155
                refine r_aload_n C dX11_alerts_158 rfl ?_
                refine r_iload_n C dX11_alerts_159 rfl ?_
                refine cvV_X11_66 C dX11_alerts_160 (c_X11_pages hm (MI_fold hI) j hj) hm.1 (hm.k (by decide)) ⟨rfl, rfl⟩ rfl rfl rfl ?_
                refine r_iload_n C dX11_alerts_163 rfl ?_
                exact hE _ _ _ _ dX11_alerts_164 (And.intro (by rw [hO, ej]) (by rw [hO]; simp only [c_7, c_16, c_28, c_54, c_155, if_true, if_false]))
      · skip
        refine r_aload_n C dX11_alerts_31 rfl ?_
        refine r_iload_n C dX11_alerts_32 rfl ?_
        refine r_iload_n C dX11_alerts_33 rfl ?_
        refine cvI_X11_102 C dX11_alerts_34 (c_X11_opens hm hI _ _) hm.1 (hm.k (by decide)) ⟨rfl, rfl⟩ rfl rfl rfl ?_
        exact hE _ _ _ _ dX11_alerts_37 (And.intro (by rw [mAlerts, if_neg c_7, if_neg c_16, if_pos c_28]) (by rw [mAlerts, if_neg c_7, if_neg c_16, if_pos c_28]))
    · skip
      refine r_iconst C dX11_alerts_19 ic_m1 ?_
      exact hE _ _ _ _ dX11_alerts_20 (by simp [pI, mAlerts, c_7, c_16])
