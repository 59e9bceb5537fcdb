/-! ===== the reference: incidentOf, count ===== -/
set_option maxRecDepth 100000 in
set_option maxHeartbeats 4000000 in
theorem c_X11_incidentOf {g : mG} {l : Launch} {tpl : mT} {b n : Nat} {v : mV} {σ : Nat → Int32} (hm : isM g tpl b n) (hI : MI σ) (x y : Int32) : CT g l tpl b n yX11_incidentOf cX11_incidentOf 4 (some .int) rm_X11_incidentOf [.ref (b + 0), .int x, .int y] (sv v σ) (pI (mIncidentOf σ x y) (sv v σ)) := by
  refine CT.introI [some (.ref (b + 0)), some (.int x), some (.int y), none] (own := RX11) (by decide +kernel) rfl rfl rfl rfl ?_
  intro p e s m args below meth c Q C hE
  refine r_aload_n C dX11_incidentOf_0 rfl ?_
  refine r_iload_n C dX11_incidentOf_1 rfl ?_
  refine cvI_X11_70 C dX11_incidentOf_2 (c_X11_isIncident hm _) hm.1 (hm.k (by decide)) ⟨rfl, rfl⟩ rfl rfl rfl ?_
  refine r_if_eq (tgt := 18) C dX11_incidentOf_5 rfl (fun c_5 => ?_) (fun c_5 => ?_)
  · skip
    refine r_iconst C dX11_incidentOf_18 ic_m1 ?_
    exact hE _ _ _ _ dX11_incidentOf_19 (And.intro (congrArg (fun z => some (Value.int z)) (by unfold mIncidentOf; (try simp only [nc]); repeat' split; all_goals first | contradiction | (with_reducible rfl) | (simp [*]; done))) rfl)
  · skip
    obtain ⟨j, hj, rfl⟩ := mInc_of c_5
    have nc : (nI j).toNatClampNeg = j := nI_clamp (by omega)
    refine r_iload_n C dX11_incidentOf_8 rfl ?_
    refine r_iconst C dX11_incidentOf_9 ic_0 ?_
    refine r_bipush C dX11_incidentOf_10 bp_11 ?_
    refine cvI_X11_32 C dX11_incidentOf_12 (c_X11_in _ _ _) ⟨rfl, rfl⟩ rfl rfl rfl ?_
    refine r_if_ne (tgt := 20) C dX11_incidentOf_15 rfl (fun c_15 => ?_) (fun c_15 => ?_)
    · skip
      obtain ⟨w, hw, ew⟩ := mIn_le (n := 11) (by decide +kernel) c_15
      have nw : y.toNatClampNeg = w := by rw [ew]; exact nI_clamp (by omega)
      refine r_iload_n C dX11_incidentOf_20 rfl ?_
      refine cvI_X11_36 C dX11_incidentOf_21 (c_X11_incidentAt _) ⟨rfl, rfl⟩ rfl rfl rfl ?_
      refine r_istore_n C dX11_incidentOf_24 rfl rfl ?_
      refine r_iload_n C dX11_incidentOf_25 rfl ?_
      by_cases s_3 : y = 3
      · skip
        refine r_tsw (y := 3) (off := 50) (tgt := 76) C dX11_incidentOf_26 s_3 (by decide +kernel) rfl ?_
        refine r_aload_n C dX11_incidentOf_76 rfl ?_
        refine gf_X11_7 C dX11_incidentOf_77 hm.1 (hm.k (by decide)) ?_
        refine r_iload_n C dX11_incidentOf_80 rfl ?_
        refine r_iconst C dX11_incidentOf_81 ic_4 ?_
        refine r_iadd C dX11_incidentOf_82 ?_
        refine r_sld C dX11_incidentOf_83 hm (j := ((101 + 16 * j) + 4)) (na_add (na_add kn_101 (na_mul kn_16 rfl)) kn_4) (by omega) ?_
        refine r_if_ne (tgt := 92) C dX11_incidentOf_84 rfl (fun c_84 => ?_) (fun c_84 => ?_)
        · skip
          refine r_aload_n C dX11_incidentOf_92 rfl ?_
          refine gf_X11_7 C dX11_incidentOf_93 hm.1 (hm.k (by decide)) ?_
          refine r_iload_n C dX11_incidentOf_96 rfl ?_
          refine r_iconst C dX11_incidentOf_97 ic_4 ?_
          refine r_iadd C dX11_incidentOf_98 ?_
          refine r_sld C dX11_incidentOf_99 hm (j := ((101 + 16 * j) + 4)) (na_add (na_add kn_101 (na_mul kn_16 rfl)) kn_4) (by omega) ?_
          refine r_iconst C dX11_incidentOf_100 ic_1 ?_
          refine r_isub C dX11_incidentOf_101 ?_
          exact hE _ _ _ _ dX11_incidentOf_102 (And.intro (congrArg (fun z => some (Value.int z)) (by unfold mIncidentOf; (try simp only [nc]); repeat' split; all_goals first | contradiction | (with_reducible rfl) | (simp [*]; done))) rfl)
        · skip
          refine r_bipush C dX11_incidentOf_87 bp_m4 ?_
          refine r_goto (tgt := 102) C dX11_incidentOf_89 rfl ?_
          exact hE _ _ _ _ dX11_incidentOf_102 (And.intro (congrArg (fun z => some (Value.int z)) (by unfold mIncidentOf; (try simp only [nc]); repeat' split; all_goals first | contradiction | (with_reducible rfl) | (simp [*]; done))) rfl)
      by_cases s_4 : y = 4
      · skip
        refine r_tsw (y := 4) (off := 124) (tgt := 150) C dX11_incidentOf_26 s_4 (by decide +kernel) rfl ?_
        refine r_aload_n C dX11_incidentOf_150 rfl ?_
        refine gf_X11_7 C dX11_incidentOf_151 hm.1 (hm.k (by decide)) ?_
        refine r_iload_n C dX11_incidentOf_154 rfl ?_
        refine r_iconst C dX11_incidentOf_155 ic_1 ?_
        refine r_iadd C dX11_incidentOf_156 ?_
        refine r_iload_n C dX11_incidentOf_157 rfl ?_
        refine r_iadd C dX11_incidentOf_158 ?_
        refine r_sld C dX11_incidentOf_159 hm (j := (((101 + 16 * j) + 1) + w)) (na_add (na_add (na_add kn_101 (na_mul kn_16 rfl)) kn_1) ew) (by omega) ?_
        exact hE _ _ _ _ dX11_incidentOf_160 (And.intro (congrArg (fun z => some (Value.int z)) (by unfold mIncidentOf mIncD; rw [if_neg c_5, if_neg c_15]; (try simp only [nc, nw]); repeat' split; all_goals first | contradiction | (with_reducible rfl) | (simp [*]; done))) rfl)
      by_cases s_5 : y = 5
      · skip
        refine r_tsw (y := 5) (off := 124) (tgt := 150) C dX11_incidentOf_26 s_5 (by decide +kernel) rfl ?_
        refine r_aload_n C dX11_incidentOf_150 rfl ?_
        refine gf_X11_7 C dX11_incidentOf_151 hm.1 (hm.k (by decide)) ?_
        refine r_iload_n C dX11_incidentOf_154 rfl ?_
        refine r_iconst C dX11_incidentOf_155 ic_1 ?_
        refine r_iadd C dX11_incidentOf_156 ?_
        refine r_iload_n C dX11_incidentOf_157 rfl ?_
        refine r_iadd C dX11_incidentOf_158 ?_
        refine r_sld C dX11_incidentOf_159 hm (j := (((101 + 16 * j) + 1) + w)) (na_add (na_add (na_add kn_101 (na_mul kn_16 rfl)) kn_1) ew) (by omega) ?_
        exact hE _ _ _ _ dX11_incidentOf_160 (And.intro (congrArg (fun z => some (Value.int z)) (by unfold mIncidentOf mIncD; rw [if_neg c_5, if_neg c_15]; (try simp only [nc, nw]); repeat' split; all_goals first | contradiction | (with_reducible rfl) | (simp [*]; done))) rfl)
      by_cases s_6 : y = 6
      · skip
        refine r_tsw (y := 6) (off := 124) (tgt := 150) C dX11_incidentOf_26 s_6 (by decide +kernel) rfl ?_
        refine r_aload_n C dX11_incidentOf_150 rfl ?_
        refine gf_X11_7 C dX11_incidentOf_151 hm.1 (hm.k (by decide)) ?_
        refine r_iload_n C dX11_incidentOf_154 rfl ?_
        refine r_iconst C dX11_incidentOf_155 ic_1 ?_
        refine r_iadd C dX11_incidentOf_156 ?_
        refine r_iload_n C dX11_incidentOf_157 rfl ?_
        refine r_iadd C dX11_incidentOf_158 ?_
        refine r_sld C dX11_incidentOf_159 hm (j := (((101 + 16 * j) + 1) + w)) (na_add (na_add (na_add kn_101 (na_mul kn_16 rfl)) kn_1) ew) (by omega) ?_
        exact hE _ _ _ _ dX11_incidentOf_160 (And.intro (congrArg (fun z => some (Value.int z)) (by unfold mIncidentOf mIncD; rw [if_neg c_5, if_neg c_15]; (try simp only [nc, nw]); repeat' split; all_goals first | contradiction | (with_reducible rfl) | (simp [*]; done))) rfl)
      by_cases s_7 : y = 7
      · skip
        refine r_tsw (y := 7) (off := 124) (tgt := 150) C dX11_incidentOf_26 s_7 (by decide +kernel) rfl ?_
        refine r_aload_n C dX11_incidentOf_150 rfl ?_
        refine gf_X11_7 C dX11_incidentOf_151 hm.1 (hm.k (by decide)) ?_
        refine r_iload_n C dX11_incidentOf_154 rfl ?_
        refine r_iconst C dX11_incidentOf_155 ic_1 ?_
        refine r_iadd C dX11_incidentOf_156 ?_
        refine r_iload_n C dX11_incidentOf_157 rfl ?_
        refine r_iadd C dX11_incidentOf_158 ?_
        refine r_sld C dX11_incidentOf_159 hm (j := (((101 + 16 * j) + 1) + w)) (na_add (na_add (na_add kn_101 (na_mul kn_16 rfl)) kn_1) ew) (by omega) ?_
        exact hE _ _ _ _ dX11_incidentOf_160 (And.intro (congrArg (fun z => some (Value.int z)) (by unfold mIncidentOf mIncD; rw [if_neg c_5, if_neg c_15]; (try simp only [nc, nw]); repeat' split; all_goals first | contradiction | (with_reducible rfl) | (simp [*]; done))) rfl)
      by_cases s_8 : y = 8
      · skip
        refine r_tsw (y := 8) (off := 124) (tgt := 150) C dX11_incidentOf_26 s_8 (by decide +kernel) rfl ?_
        refine r_aload_n C dX11_incidentOf_150 rfl ?_
        refine gf_X11_7 C dX11_incidentOf_151 hm.1 (hm.k (by decide)) ?_
        refine r_iload_n C dX11_incidentOf_154 rfl ?_
        refine r_iconst C dX11_incidentOf_155 ic_1 ?_
        refine r_iadd C dX11_incidentOf_156 ?_
        refine r_iload_n C dX11_incidentOf_157 rfl ?_
        refine r_iadd C dX11_incidentOf_158 ?_
        refine r_sld C dX11_incidentOf_159 hm (j := (((101 + 16 * j) + 1) + w)) (na_add (na_add (na_add kn_101 (na_mul kn_16 rfl)) kn_1) ew) (by omega) ?_
        exact hE _ _ _ _ dX11_incidentOf_160 (And.intro (congrArg (fun z => some (Value.int z)) (by unfold mIncidentOf mIncD; rw [if_neg c_5, if_neg c_15]; (try simp only [nc, nw]); repeat' split; all_goals first | contradiction | (with_reducible rfl) | (simp [*]; done))) rfl)
      by_cases s_9 : y = 9
      · skip
        refine r_tsw (y := 9) (off := 77) (tgt := 103) C dX11_incidentOf_26 s_9 (by decide +kernel) rfl ?_
        refine r_aload_n C dX11_incidentOf_103 rfl ?_
        refine gf_X11_7 C dX11_incidentOf_104 hm.1 (hm.k (by decide)) ?_
        refine r_iload_n C dX11_incidentOf_107 rfl ?_
        refine r_bipush C dX11_incidentOf_108 bp_14 ?_
        refine r_iadd C dX11_incidentOf_110 ?_
        refine r_sld C dX11_incidentOf_111 hm (j := ((101 + 16 * j) + 14)) (na_add (na_add kn_101 (na_mul kn_16 rfl)) kn_14) (by omega) ?_
        refine r_if_ne (tgt := 120) C dX11_incidentOf_112 rfl (fun c_112 => ?_) (fun c_112 => ?_)
        · skip
          refine r_aload_n C dX11_incidentOf_120 rfl ?_
          refine gf_X11_7 C dX11_incidentOf_121 hm.1 (hm.k (by decide)) ?_
          refine r_iload_n C dX11_incidentOf_124 rfl ?_
          refine r_bipush C dX11_incidentOf_125 bp_10 ?_
          refine r_iadd C dX11_incidentOf_127 ?_
          refine r_sld C dX11_incidentOf_128 hm (j := ((101 + 16 * j) + 10)) (na_add (na_add kn_101 (na_mul kn_16 rfl)) kn_10) (by omega) ?_
          exact hE _ _ _ _ dX11_incidentOf_129 (And.intro (congrArg (fun z => some (Value.int z)) (by unfold mIncidentOf; (try simp only [nc]); repeat' split; all_goals first | contradiction | (with_reducible rfl) | (simp [*]; done))) rfl)
        · skip
          refine r_bipush C dX11_incidentOf_115 bp_m4 ?_
          refine r_goto (tgt := 129) C dX11_incidentOf_117 rfl ?_
          exact hE _ _ _ _ dX11_incidentOf_129 (And.intro (congrArg (fun z => some (Value.int z)) (by unfold mIncidentOf; (try simp only [nc]); repeat' split; all_goals first | contradiction | (with_reducible rfl) | (simp [*]; done))) rfl)
      by_cases s_10 : y = 10
      · skip
        refine r_tsw (y := 10) (off := 104) (tgt := 130) C dX11_incidentOf_26 s_10 (by decide +kernel) rfl ?_
        refine r_aload_n C dX11_incidentOf_130 rfl ?_
        refine gf_X11_7 C dX11_incidentOf_131 hm.1 (hm.k (by decide)) ?_
        refine r_iload_n C dX11_incidentOf_134 rfl ?_
        refine r_bipush C dX11_incidentOf_135 bp_12 ?_
        refine r_iadd C dX11_incidentOf_137 ?_
        refine r_sld C dX11_incidentOf_138 hm (j := ((101 + 16 * j) + 12)) (na_add (na_add kn_101 (na_mul kn_16 rfl)) kn_12) (by omega) ?_
        exact hE _ _ _ _ dX11_incidentOf_139 (And.intro (congrArg (fun z => some (Value.int z)) (by unfold mIncidentOf; (try simp only [nc]); repeat' split; all_goals first | contradiction | (with_reducible rfl) | (simp [*]; done))) rfl)
      by_cases s_11 : y = 11
      · skip
        refine r_tsw (y := 11) (off := 114) (tgt := 140) C dX11_incidentOf_26 s_11 (by decide +kernel) rfl ?_
        refine r_aload_n C dX11_incidentOf_140 rfl ?_
        refine gf_X11_7 C dX11_incidentOf_141 hm.1 (hm.k (by decide)) ?_
        refine r_iload_n C dX11_incidentOf_144 rfl ?_
        refine r_bipush C dX11_incidentOf_145 bp_13 ?_
        refine r_iadd C dX11_incidentOf_147 ?_
        refine r_sld C dX11_incidentOf_148 hm (j := ((101 + 16 * j) + 13)) (na_add (na_add kn_101 (na_mul kn_16 rfl)) kn_13) (by omega) ?_
        exact hE _ _ _ _ dX11_incidentOf_149 (And.intro (congrArg (fun z => some (Value.int z)) (by unfold mIncidentOf; (try simp only [nc]); repeat' split; all_goals first | contradiction | (with_reducible rfl) | (simp [*]; done))) rfl)
      refine r_tswd (tgt := 150) (lo := 3) (cnt := 9) C dX11_incidentOf_26 (fun j hj => match j, hj with | 0, _ => s_3 | 1, _ => s_4 | 2, _ => s_5 | 3, _ => s_6 | 4, _ => s_7 | 5, _ => s_8 | 6, _ => s_9 | 7, _ => s_10 | 8, _ => s_11 | (j + 9), h => absurd h (by omega)) rfl rfl ?_
      refine r_aload_n C dX11_incidentOf_150 rfl ?_
      refine gf_X11_7 C dX11_incidentOf_151 hm.1 (hm.k (by decide)) ?_
      refine r_iload_n C dX11_incidentOf_154 rfl ?_
      refine r_iconst C dX11_incidentOf_155 ic_1 ?_
      refine r_iadd C dX11_incidentOf_156 ?_
      refine r_iload_n C dX11_incidentOf_157 rfl ?_
      refine r_iadd C dX11_incidentOf_158 ?_
      refine r_sld C dX11_incidentOf_159 hm (j := (((101 + 16 * j) + 1) + w)) (na_add (na_add (na_add kn_101 (na_mul kn_16 rfl)) kn_1) ew) (by omega) ?_
      exact hE _ _ _ _ dX11_incidentOf_160 (And.intro (congrArg (fun z => some (Value.int z)) (by unfold mIncidentOf mIncD; rw [if_neg c_5, if_neg c_15]; (try simp only [nc, nw]); repeat' split; all_goals first | contradiction | (with_reducible rfl) | (simp [*]; done))) rfl)
    · skip
      refine r_iconst C dX11_incidentOf_18 ic_m1 ?_
      exact hE _ _ _ _ dX11_incidentOf_19 (And.intro (congrArg (fun z => some (Value.int z)) (by unfold mIncidentOf; (try simp only [nc]); repeat' split; all_goals first | contradiction | (with_reducible rfl) | (simp [*]; done))) rfl)
