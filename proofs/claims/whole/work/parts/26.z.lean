set_option maxRecDepth 100000 in
set_option maxHeartbeats 4000000 in
theorem c_X10_rotaAt {g : mG} {l : Launch} {tpl : mT} {b n : Nat} {v : mV} (hz : isZ g tpl b n) (hc : CI v) (x y : Int32) : CT g l tpl b n yX10_rotaAt cX10_rotaAt 4 (some .int) rm_X10_rotaAt [.ref (b + 0), .int x, .int y] v (pI (zRotaAt v x y) v) := by
  refine CT.introI [some (.ref (b + 0)), some (.int x), some (.int y), none] (own := RX10) (by decide +kernel) rfl rfl rfl rfl ?_
  intro p e s m args below meth c Q C hE
  refine r_aload_n C dX10_rotaAt_0 rfl ?_
  refine gf_X10_10 C dX10_rotaAt_1 hz.1 hz.2.2.2.2.2 ?_
  refine gf_X10_37 C dX10_rotaAt_4 hz.2.1.1 hz.2.1.k0 ?_
  refine r_iload_n C dX10_rotaAt_7 rfl ?_
  refine cvI_X10_71 C dX10_rotaAt_8 (c_X5_hasRegion 1 hz.2.1.2.1 _) hz.2.1.2.1.1 (hz.2.1.2.1.k (by decide)) ⟨rfl, rfl⟩ rfl rfl rfl ?_
  refine r_if_eq (tgt := 18) C dX10_rotaAt_11 rfl (fun c_11 => ?_) (fun c_11 => ?_)
  · skip
    refine r_iconst C dX10_rotaAt_18 ic_m1 ?_
    exact hE _ _ _ _ dX10_rotaAt_19 (by simp [pI, zRotaAt, c_11])
  · skip
    refine r_iload_n C dX10_rotaAt_14 rfl ?_
    refine r_if_ge (tgt := 20) C dX10_rotaAt_15 rfl (fun c_15 => ?_) (fun c_15 => ?_)
    · skip
      obtain ⟨j, hj, rfl⟩ := fIn_of kn_3 (by decide) c_11
      have nc : (nI j).toNatClampNeg = j := nI_clamp (by omega)
      refine r_aload_n C dX10_rotaAt_20 rfl ?_
      refine gf_X10_10 C dX10_rotaAt_21 hz.1 hz.2.2.2.2.2 ?_
      refine gf_X10_37 C dX10_rotaAt_24 hz.2.1.1 hz.2.1.k0 ?_
      refine gf_X10_75 C dX10_rotaAt_27 hz.2.1.2.1.1 (hz.2.1.2.1.k (by decide)) ?_
      refine r_iload_n C dX10_rotaAt_30 rfl ?_
      refine r_aald (t0 := 5) C dX10_rotaAt_31 hz.2.1.2.1.2.2.1 rfl (hz.2.1.2.1.k (by decide)) (j := j) rfl hj rfl rfl ?_
      refine r_iload_n C dX10_rotaAt_32 rfl ?_
      refine cvI_X10_79 C dX10_rotaAt_33 (c_X4_memberAt _ (hz.2.1.2.1.2.2.2.2.2.1 j hj) _) (hz.2.1.2.1.2.2.2.2.2.1 j hj).1 (hz.2.1.2.1.2.2.2.2.2.1 j hj).k ⟨rfl, rfl⟩ rfl rfl rfl ?_
      refine r_istore_n C dX10_rotaAt_36 rfl rfl ?_
      refine r_iload_n C dX10_rotaAt_37 rfl ?_
      refine r_iconst C dX10_rotaAt_38 ic_m1 ?_
      refine r_icmp_ne (tgt := 47) C dX10_rotaAt_39 rfl (fun c_39 => ?_) (fun c_39 => ?_)
      · skip
        refine r_iload_n C dX10_rotaAt_47 rfl ?_
        exact hE _ _ _ _ dX10_rotaAt_48 (by simp [pI, zRotaAt, c_11, c_15, nc, c_39])
      · skip
        refine r_bipush C dX10_rotaAt_42 bp_m4 ?_
        refine r_goto (tgt := 48) C dX10_rotaAt_44 rfl ?_
        exact hE _ _ _ _ dX10_rotaAt_48 (by simp [pI, zRotaAt, c_11, c_15, nc, c_39])
    · skip
      refine r_iconst C dX10_rotaAt_18 ic_m1 ?_
      exact hE _ _ _ _ dX10_rotaAt_19 (by simp [pI, zRotaAt, c_11, c_15])
set_option maxRecDepth 100000 in
set_option maxHeartbeats 4000000 in
theorem c_X10_personOf {g : mG} {l : Launch} {tpl : mT} {b n : Nat} {v : mV} (hz : isZ g tpl b n) (hc : CI v) (x y : Int32) : CT g l tpl b n yX10_personOf cX10_personOf 4 (some .int) rm_X10_personOf [.ref (b + 0), .int x, .int y] v (pI (zPersonOf v x y) v) := by
  refine CT.introI [some (.ref (b + 0)), some (.int x), some (.int y), none] (own := RX10) (by decide +kernel) rfl rfl rfl rfl ?_
  intro p e s m args below meth c Q C hE
  refine r_aload_n C dX10_personOf_0 rfl ?_
  refine gf_X10_10 C dX10_personOf_1 hz.1 hz.2.2.2.2.2 ?_
  refine gf_X10_37 C dX10_personOf_4 hz.2.1.1 hz.2.1.k0 ?_
  refine r_iload_n C dX10_personOf_7 rfl ?_
  refine cvI_X10_84 C dX10_personOf_8 (c_X5_hasPerson 1 hz.2.1.2.1 _) hz.2.1.2.1.1 (hz.2.1.2.1.k (by decide)) ⟨rfl, rfl⟩ rfl rfl rfl ?_
  refine r_if_ne (tgt := 16) C dX10_personOf_11 rfl (fun c_11 => ?_) (fun c_11 => ?_)
  · skip
    obtain ⟨j, hj, rfl⟩ := fIn_of kn_8 (by decide) c_11
    have nc : (nI j).toNatClampNeg = j := nI_clamp (by omega)
    refine r_aload_n C dX10_personOf_16 rfl ?_
    refine gf_X10_10 C dX10_personOf_17 hz.1 hz.2.2.2.2.2 ?_
    refine gf_X10_37 C dX10_personOf_20 hz.2.1.1 hz.2.1.k0 ?_
    refine gf_X10_87 C dX10_personOf_23 hz.2.1.2.1.1 (hz.2.1.2.1.k (by decide)) ?_
    refine r_iload_n C dX10_personOf_26 rfl ?_
    refine r_aald (t0 := 4) C dX10_personOf_27 hz.2.1.2.1.2.1 rfl (hz.2.1.2.1.k (by decide)) (j := j) rfl hj rfl rfl ?_
    refine r_astore_n C dX10_personOf_28 rfl rfl ?_
    refine r_iload_n C dX10_personOf_29 rfl ?_
    by_cases s_0 : y = 0
    · skip
      refine r_tsw (y := 0) (off := 42) (tgt := 72) C dX10_personOf_30 s_0 (by decide +kernel) rfl ?_
      refine r_aload_n C dX10_personOf_72 rfl ?_
      refine gf_X10_91 C dX10_personOf_73 (hz.2.1.2.1.2.2.2.2.1 j hj).1 (hz.2.1.2.1.2.2.2.2.1 j hj).k ?_
      exact hE _ _ _ _ dX10_personOf_76 (by simp [pI, zPersonOf, c_11, nc, s_0])
    by_cases s_1 : y = 1
    · skip
      refine r_tsw (y := 1) (off := 47) (tgt := 77) C dX10_personOf_30 s_1 (by decide +kernel) rfl ?_
      refine r_aload_n C dX10_personOf_77 rfl ?_
      refine gf_X10_10 C dX10_personOf_78 hz.1 hz.2.2.2.2.2 ?_
      refine r_iload_n C dX10_personOf_81 rfl ?_
      refine r_iconst C dX10_personOf_82 ic_0 ?_
      refine cvI_X10_97 C dX10_personOf_83 (c_X1_ownedBy 1 hz.2.1 _ _) hz.2.1.1 hz.2.1.k0 ⟨rfl, rfl⟩ rfl rfl rfl ?_
      exact hE _ _ _ _ dX10_personOf_86 (by simp [pI, zPersonOf, c_11, nc, s_0, s_1])
    by_cases s_2 : y = 2
    · skip
      refine r_tsw (y := 2) (off := 57) (tgt := 87) C dX10_personOf_30 s_2 (by decide +kernel) rfl ?_
      refine r_aload_n C dX10_personOf_87 rfl ?_
      refine gf_X10_10 C dX10_personOf_88 hz.1 hz.2.2.2.2.2 ?_
      refine r_iload_n C dX10_personOf_91 rfl ?_
      refine r_iconst C dX10_personOf_92 ic_1 ?_
      refine cvI_X10_97 C dX10_personOf_93 (c_X1_ownedBy 1 hz.2.1 _ _) hz.2.1.1 hz.2.1.k0 ⟨rfl, rfl⟩ rfl rfl rfl ?_
      exact hE _ _ _ _ dX10_personOf_96 (by simp [pI, zPersonOf, c_11, nc, s_0, s_1, s_2])
    by_cases s_3 : y = 3
    · skip
      refine r_tsw (y := 3) (off := 67) (tgt := 97) C dX10_personOf_30 s_3 (by decide +kernel) rfl ?_
      refine r_aload_n C dX10_personOf_97 rfl ?_
      refine gf_X10_101 C dX10_personOf_98 (hz.2.1.2.1.2.2.2.2.1 j hj).1 (hz.2.1.2.1.2.2.2.2.1 j hj).k ?_
      exact hE _ _ _ _ dX10_personOf_101 (by simp [pI, zPersonOf, c_11, nc, s_0, s_1, s_2, s_3])
    by_cases s_4 : y = 4
    · skip
      refine r_tsw (y := 4) (off := 72) (tgt := 102) C dX10_personOf_30 s_4 (by decide +kernel) rfl ?_
      refine r_aload_n C dX10_personOf_102 rfl ?_
      refine gf_X10_10 C dX10_personOf_103 hz.1 hz.2.2.2.2.2 ?_
      refine gf_X10_37 C dX10_personOf_106 hz.2.1.1 hz.2.1.k0 ?_
      refine r_iload_n C dX10_personOf_109 rfl ?_
      refine cvI_X10_104 C dX10_personOf_110 (c_X5_regionsOf 1 hz.2.1.2.1 _) hz.2.1.2.1.1 (hz.2.1.2.1.k (by decide)) ⟨rfl, rfl⟩ rfl rfl rfl ?_
      exact hE _ _ _ _ dX10_personOf_113 (by simp [pI, zPersonOf, c_11, nc, s_0, s_1, s_2, s_3, s_4])
    by_cases s_5 : y = 5
    · skip
      refine r_tsw (y := 5) (off := 84) (tgt := 114) C dX10_personOf_30 s_5 (by decide +kernel) rfl ?_
      refine r_aload_n C dX10_personOf_114 rfl ?_
      refine gf_X10_107 C dX10_personOf_115 (hz.2.1.2.1.2.2.2.2.1 j hj).1 (hz.2.1.2.1.2.2.2.2.1 j hj).k ?_
      refine r_aload_n C dX10_personOf_118 rfl ?_
      refine gf_X10_10 C dX10_personOf_119 hz.1 hz.2.2.2.2.2 ?_
      refine gf_X10_111 C dX10_personOf_122 hz.2.1.1 hz.2.1.k0 ?_
      refine cvI_X10_114 C dX10_personOf_125 (c_X10_hourOfDay _) ⟨rfl, rfl⟩ rfl rfl rfl ?_
      refine cvI_X10_117 C dX10_personOf_128 (c_X7_has _ (hz.2.1.2.1.2.2.2.2.1 j hj).2.1 (hz.2.1.2.1.2.2.2.2.1 j hj).2.2 _) (hz.2.1.2.1.2.2.2.2.1 j hj).2.1 (hz.2.1.2.1.2.2.2.2.1 j hj).2.2 ⟨rfl, rfl⟩ rfl rfl rfl ?_
      refine r_if_eq (tgt := 138) C dX10_personOf_131 rfl (fun c_131 => ?_) (fun c_131 => ?_)
      · skip
        refine r_iconst C dX10_personOf_138 ic_0 ?_
        exact hE _ _ _ _ dX10_personOf_139 (by simp [pI, zPersonOf, c_11, nc, s_0, s_1, s_2, s_3, s_4, s_5, c_131])
      · skip
        refine r_iconst C dX10_personOf_134 ic_1 ?_
        refine r_goto (tgt := 139) C dX10_personOf_135 rfl ?_
        exact hE _ _ _ _ dX10_personOf_139 (by simp [pI, zPersonOf, c_11, nc, s_0, s_1, s_2, s_3, s_4, s_5, c_131])
    by_cases s_6 : y = 6
    · skip
      refine r_tsw (y := 6) (off := 110) (tgt := 140) C dX10_personOf_30 s_6 (by decide +kernel) rfl ?_
      refine r_aload_n C dX10_personOf_140 rfl ?_
      refine gf_X10_122 C dX10_personOf_141 (hz.2.1.2.1.2.2.2.2.1 j hj).1 (hz.2.1.2.1.2.2.2.2.1 j hj).k ?_
      exact hE _ _ _ _ dX10_personOf_144 (by simp [pI, zPersonOf, c_11, nc, s_0, s_1, s_2, s_3, s_4, s_5, s_6])
    refine r_tswd (tgt := 145) (lo := 0) (cnt := 7) C dX10_personOf_30 (fun j hj => match j, hj with | 0, _ => s_0 | 1, _ => s_1 | 2, _ => s_2 | 3, _ => s_3 | 4, _ => s_4 | 5, _ => s_5 | 6, _ => s_6 | (j + 7), h => absurd h (by omega)) rfl rfl ?_
    refine r_iconst C dX10_personOf_145 ic_m1 ?_
    exact hE _ _ _ _ dX10_personOf_146 (by simp [pI, zPersonOf, c_11, nc, s_0, s_1, s_2, s_3, s_4, s_5, s_6])
  · skip
    refine r_iconst C dX10_personOf_14 ic_m1 ?_
    exact hE _ _ _ _ dX10_personOf_15 (by simp [pI, zPersonOf, c_11])
set_option maxRecDepth 100000 in
set_option maxHeartbeats 4000000 in
theorem c_X10_incidentOf {g : mG} {l : Launch} {tpl : mT} {b n : Nat} {v : mV} (hz : isZ g tpl b n) (hc : CI v) (x y : Int32) : CT g l tpl b n yX10_incidentOf cX10_incidentOf 4 (some .int) rm_X10_incidentOf [.ref (b + 0), .int x, .int y] v (pI (zIncidentOf v x y) v) := by
  refine CT.introI [some (.ref (b + 0)), some (.int x), some (.int y), none] (own := RX10) (by decide +kernel) rfl rfl rfl rfl ?_
  intro p e s m args below meth c Q C hE
  refine r_aload_n C dX10_incidentOf_0 rfl ?_
  refine gf_X10_10 C dX10_incidentOf_1 hz.1 hz.2.2.2.2.2 ?_
  refine r_iload_n C dX10_incidentOf_4 rfl ?_
  refine cvI_X10_140 C dX10_incidentOf_5 (c_X1_isOpen 1 hz.2.1 _) hz.2.1.1 hz.2.1.k0 ⟨rfl, rfl⟩ rfl rfl rfl ?_
  refine r_if_ne (tgt := 13) C dX10_incidentOf_8 rfl (fun c_8 => ?_) (fun c_8 => ?_)
  · skip
    obtain ⟨j, hj, rfl⟩ := hsOpen_of c_8
    have nc : (nI j).toNatClampNeg = j := nI_clamp (by omega)
    refine r_aload_n C dX10_incidentOf_13 rfl ?_
    refine gf_X10_10 C dX10_incidentOf_14 hz.1 hz.2.2.2.2.2 ?_
    refine gf_X10_143 C dX10_incidentOf_17 hz.2.1.1 hz.2.1.k0 ?_
    refine r_iload_n C dX10_incidentOf_20 rfl ?_
    refine r_aald (t0 := 3) C dX10_incidentOf_21 hz.2.1.2.2.1 rfl (hz.2.1.k (by decide)) (j := j) rfl hj rfl rfl ?_
    refine r_astore_n C dX10_incidentOf_22 rfl rfl ?_
    refine r_iload_n C dX10_incidentOf_23 rfl ?_
    by_cases s_0 : y = 0
    · skip
      refine r_tsw (y := 0) (off := 64) (tgt := 88) C dX10_incidentOf_24 s_0 (by decide +kernel) rfl ?_
      refine r_aload_n C dX10_incidentOf_88 rfl ?_
      refine gf_X10_147 C dX10_incidentOf_89 (hz.2.1.2.2.2.2.1 j hj) (hz.2.1.k (by omega)) ?_
      exact hE _ _ _ _ dX10_incidentOf_92 (by simp [pI, zIncidentOf, c_8, nc, s_0])
    by_cases s_1 : y = 1
    · skip
      refine r_tsw (y := 1) (off := 69) (tgt := 93) C dX10_incidentOf_24 s_1 (by decide +kernel) rfl ?_
      refine r_aload_n C dX10_incidentOf_93 rfl ?_
      refine gf_X10_152 C dX10_incidentOf_94 (hz.2.1.2.2.2.2.1 j hj) (hz.2.1.k (by omega)) ?_
      exact hE _ _ _ _ dX10_incidentOf_97 (by simp [pI, zIncidentOf, c_8, nc, s_0, s_1])
    by_cases s_2 : y = 2
    · skip
      refine r_tsw (y := 2) (off := 74) (tgt := 98) C dX10_incidentOf_24 s_2 (by decide +kernel) rfl ?_
      refine r_aload_n C dX10_incidentOf_98 rfl ?_
      refine gf_X10_155 C dX10_incidentOf_99 (hz.2.1.2.2.2.2.1 j hj) (hz.2.1.k (by omega)) ?_
      exact hE _ _ _ _ dX10_incidentOf_102 (by simp [pI, zIncidentOf, c_8, nc, s_0, s_1, s_2])
    by_cases s_3 : y = 3
    · skip
      refine r_tsw (y := 3) (off := 79) (tgt := 103) C dX10_incidentOf_24 s_3 (by decide +kernel) rfl ?_
      refine r_aload_n C dX10_incidentOf_103 rfl ?_
      refine gf_X10_158 C dX10_incidentOf_104 (hz.2.1.2.2.2.2.1 j hj) (hz.2.1.k (by omega)) ?_
      refine r_iconst C dX10_incidentOf_107 ic_m1 ?_
      refine r_icmp_ne (tgt := 116) C dX10_incidentOf_108 rfl (fun c_108 => ?_) (fun c_108 => ?_)
      · skip
        refine r_aload_n C dX10_incidentOf_116 rfl ?_
        refine gf_X10_158 C dX10_incidentOf_117 (hz.2.1.2.2.2.2.1 j hj) (hz.2.1.k (by omega)) ?_
        exact hE _ _ _ _ dX10_incidentOf_120 (by simp [pI, zIncidentOf, c_8, nc, s_0, s_1, s_2, s_3, c_108])
      · skip
        refine r_bipush C dX10_incidentOf_111 bp_m4 ?_
        refine r_goto (tgt := 120) C dX10_incidentOf_113 rfl ?_
        exact hE _ _ _ _ dX10_incidentOf_120 (by simp [pI, zIncidentOf, c_8, nc, s_0, s_1, s_2, s_3, c_108])
    by_cases s_4 : y = 4
    · skip
      refine r_tsw (y := 4) (off := 97) (tgt := 121) C dX10_incidentOf_24 s_4 (by decide +kernel) rfl ?_
      refine r_aload_n C dX10_incidentOf_121 rfl ?_
      refine gf_X10_161 C dX10_incidentOf_122 (hz.2.1.2.2.2.2.1 j hj) (hz.2.1.k (by omega)) ?_
      refine r_if_eq (tgt := 132) C dX10_incidentOf_125 rfl (fun c_125 => ?_) (fun c_125 => ?_)
      · skip
        refine r_iconst C dX10_incidentOf_132 ic_0 ?_
        exact hE _ _ _ _ dX10_incidentOf_133 (by simp [pI, zIncidentOf, c_8, nc, s_0, s_1, s_2, s_3, s_4, c_125])
      · skip
        refine r_iconst C dX10_incidentOf_128 ic_1 ?_
        refine r_goto (tgt := 133) C dX10_incidentOf_129 rfl ?_
        exact hE _ _ _ _ dX10_incidentOf_133 (by simp [pI, zIncidentOf, c_8, nc, s_0, s_1, s_2, s_3, s_4, c_125])
    by_cases s_5 : y = 5
    · skip
      refine r_tsw (y := 5) (off := 110) (tgt := 134) C dX10_incidentOf_24 s_5 (by decide +kernel) rfl ?_
      refine r_aload_n C dX10_incidentOf_134 rfl ?_
      refine gf_X10_165 C dX10_incidentOf_135 (hz.2.1.2.2.2.2.1 j hj) (hz.2.1.k (by omega)) ?_
      exact hE _ _ _ _ dX10_incidentOf_138 (by simp [pI, zIncidentOf, c_8, nc, s_0, s_1, s_2, s_3, s_4, s_5])
    by_cases s_6 : y = 6
    · skip
      refine r_tsw (y := 6) (off := 115) (tgt := 139) C dX10_incidentOf_24 s_6 (by decide +kernel) rfl ?_
      refine r_aload_n C dX10_incidentOf_139 rfl ?_
      refine gf_X10_168 C dX10_incidentOf_140 (hz.2.1.2.2.2.2.1 j hj) (hz.2.1.k (by omega)) ?_
      exact hE _ _ _ _ dX10_incidentOf_143 (by simp [pI, zIncidentOf, c_8, nc, s_0, s_1, s_2, s_3, s_4, s_5, s_6])
    by_cases s_7 : y = 7
    · skip
      refine r_tsw (y := 7) (off := 120) (tgt := 144) C dX10_incidentOf_24 s_7 (by decide +kernel) rfl ?_
      refine r_aload_n C dX10_incidentOf_144 rfl ?_
      refine gf_X10_171 C dX10_incidentOf_145 (hz.2.1.2.2.2.2.1 j hj) (hz.2.1.k (by omega)) ?_
      exact hE _ _ _ _ dX10_incidentOf_148 (by simp [pI, zIncidentOf, c_8, nc, s_0, s_1, s_2, s_3, s_4, s_5, s_6, s_7])
    by_cases s_8 : y = 8
    · skip
      refine r_tsw (y := 8) (off := 125) (tgt := 149) C dX10_incidentOf_24 s_8 (by decide +kernel) rfl ?_
      refine r_aload_n C dX10_incidentOf_149 rfl ?_
      refine gf_X10_174 C dX10_incidentOf_150 (hz.2.1.2.2.2.2.1 j hj) (hz.2.1.k (by omega)) ?_
      exact hE _ _ _ _ dX10_incidentOf_153 (by simp [pI, zIncidentOf, c_8, nc, s_0, s_1, s_2, s_3, s_4, s_5, s_6, s_7, s_8])
    by_cases s_9 : y = 9
    · skip
      refine r_tsw (y := 9) (off := 130) (tgt := 154) C dX10_incidentOf_24 s_9 (by decide +kernel) rfl ?_
      refine r_aload_n C dX10_incidentOf_154 rfl ?_
      refine gf_X10_177 C dX10_incidentOf_155 (hz.2.1.2.2.2.2.1 j hj) (hz.2.1.k (by omega)) ?_
      refine r_iconst C dX10_incidentOf_158 ic_m1 ?_
      refine r_icmp_ne (tgt := 167) C dX10_incidentOf_159 rfl (fun c_159 => ?_) (fun c_159 => ?_)
      · skip
        refine r_aload_n C dX10_incidentOf_167 rfl ?_
        refine gf_X10_177 C dX10_incidentOf_168 (hz.2.1.2.2.2.2.1 j hj) (hz.2.1.k (by omega)) ?_
        exact hE _ _ _ _ dX10_incidentOf_171 (by simp [pI, zIncidentOf, c_8, nc, s_0, s_1, s_2, s_3, s_4, s_5, s_6, s_7, s_8, s_9, c_159])
      · skip
        refine r_bipush C dX10_incidentOf_162 bp_m4 ?_
        refine r_goto (tgt := 171) C dX10_incidentOf_164 rfl ?_
        exact hE _ _ _ _ dX10_incidentOf_171 (by simp [pI, zIncidentOf, c_8, nc, s_0, s_1, s_2, s_3, s_4, s_5, s_6, s_7, s_8, s_9, c_159])
    by_cases s_10 : y = 10
    · skip
      refine r_tsw (y := 10) (off := 148) (tgt := 172) C dX10_incidentOf_24 s_10 (by decide +kernel) rfl ?_
      refine r_aload_n C dX10_incidentOf_172 rfl ?_
      refine gf_X10_180 C dX10_incidentOf_173 (hz.2.1.2.2.2.2.1 j hj) (hz.2.1.k (by omega)) ?_
      exact hE _ _ _ _ dX10_incidentOf_176 (by simp [pI, zIncidentOf, c_8, nc, s_0, s_1, s_2, s_3, s_4, s_5, s_6, s_7, s_8, s_9, s_10])
    by_cases s_11 : y = 11
    · skip
      refine r_tsw (y := 11) (off := 153) (tgt := 177) C dX10_incidentOf_24 s_11 (by decide +kernel) rfl ?_
      refine r_aload_n C dX10_incidentOf_177 rfl ?_
      refine gf_X10_183 C dX10_incidentOf_178 (hz.2.1.2.2.2.2.1 j hj) (hz.2.1.k (by omega)) ?_
      exact hE _ _ _ _ dX10_incidentOf_181 (by simp [pI, zIncidentOf, c_8, nc, s_0, s_1, s_2, s_3, s_4, s_5, s_6, s_7, s_8, s_9, s_10, s_11])
    refine r_tswd (tgt := 182) (lo := 0) (cnt := 12) C dX10_incidentOf_24 (fun j hj => match j, hj with | 0, _ => s_0 | 1, _ => s_1 | 2, _ => s_2 | 3, _ => s_3 | 4, _ => s_4 | 5, _ => s_5 | 6, _ => s_6 | 7, _ => s_7 | 8, _ => s_8 | 9, _ => s_9 | 10, _ => s_10 | 11, _ => s_11 | (j + 12), h => absurd h (by omega)) rfl rfl ?_
    refine r_iconst C dX10_incidentOf_182 ic_m1 ?_
    exact hE _ _ _ _ dX10_incidentOf_183 (by simp [pI, zIncidentOf, c_8, nc, s_0, s_1, s_2, s_3, s_4, s_5, s_6, s_7, s_8, s_9, s_10, s_11])
  · skip
    refine r_iconst C dX10_incidentOf_11 ic_m1 ?_
    exact hE _ _ _ _ dX10_incidentOf_12 (by simp [pI, zIncidentOf, c_8])
set_option maxRecDepth 100000 in
set_option maxHeartbeats 4000000 in
theorem c_X10_count {g : mG} {l : Launch} {tpl : mT} {b n : Nat} {v : mV} (hz : isZ g tpl b n) (hc : CI v) (x : Int32) : CT g l tpl b n yX10_count cX10_count 2 (some .int) rm_X10_count [.ref (b + 0), .int x] v (pI (zCount v x) v) := by
  refine CT.introI [some (.ref (b + 0)), some (.int x)] (own := RX10) (by decide +kernel) rfl rfl rfl rfl ?_
  intro p e s m args below meth c Q C hE
  refine r_iload_n C dX10_count_0 rfl ?_
  by_cases s_0 : x = 0
  · skip
    refine r_tsw (y := 0) (off := 103) (tgt := 104) C dX10_count_1 s_0 (by decide +kernel) rfl ?_
    refine r_aload_n C dX10_count_104 rfl ?_
    refine gf_X10_10 C dX10_count_105 hz.1 hz.2.2.2.2.2 ?_
    refine gf_X10_37 C dX10_count_108 hz.2.1.1 hz.2.1.k0 ?_
    refine gf_X10_186 C dX10_count_111 hz.2.1.2.1.1 (hz.2.1.2.1.k (by decide)) ?_
    exact hE _ _ _ _ dX10_count_114 (by simp [pI, zCount, toNum, s_0])
  by_cases s_1 : x = 1
  · skip
    refine r_tsw (y := 1) (off := 114) (tgt := 115) C dX10_count_1 s_1 (by decide +kernel) rfl ?_
    refine r_aload_n C dX10_count_115 rfl ?_
    refine gf_X10_10 C dX10_count_116 hz.1 hz.2.2.2.2.2 ?_
    refine gf_X10_37 C dX10_count_119 hz.2.1.1 hz.2.1.k0 ?_
    refine gf_X10_189 C dX10_count_122 hz.2.1.2.1.1 (hz.2.1.2.1.k (by decide)) ?_
    exact hE _ _ _ _ dX10_count_125 (by simp [pI, zCount, toNum, s_0, s_1])
  by_cases s_2 : x = 2
  · skip
    refine r_tsw (y := 2) (off := 125) (tgt := 126) C dX10_count_1 s_2 (by decide +kernel) rfl ?_
    refine r_aload_n C dX10_count_126 rfl ?_
    refine gf_X10_10 C dX10_count_127 hz.1 hz.2.2.2.2.2 ?_
    refine gf_X10_111 C dX10_count_130 hz.2.1.1 hz.2.1.k0 ?_
    exact hE _ _ _ _ dX10_count_133 (by simp [pI, zCount, toNum, s_0, s_1, s_2])
  by_cases s_3 : x = 3
  · skip
    refine r_tsw (y := 3) (off := 133) (tgt := 134) C dX10_count_1 s_3 (by decide +kernel) rfl ?_
    refine r_aload_n C dX10_count_134 rfl ?_
    refine gf_X10_10 C dX10_count_135 hz.1 hz.2.2.2.2.2 ?_
    refine cvI_X10_192 C dX10_count_138 (c_X1_openIncidents 1 hz.2.1) hz.2.1.1 hz.2.1.k0 ⟨rfl, rfl⟩ rfl rfl rfl ?_
    exact hE _ _ _ _ dX10_count_141 (by simp [pI, zCount, toNum, s_0, s_1, s_2, s_3])
  by_cases s_4 : x = 4
  · skip
    refine r_tsw (y := 4) (off := 141) (tgt := 142) C dX10_count_1 s_4 (by decide +kernel) rfl ?_
    refine r_aload_n C dX10_count_142 rfl ?_
    refine gf_X10_10 C dX10_count_143 hz.1 hz.2.2.2.2.2 ?_
    refine r_iconst C dX10_count_146 ic_m1 ?_
    refine r_iconst C dX10_count_147 ic_0 ?_
    refine cvI_X10_97 C dX10_count_148 (c_X1_ownedBy 1 hz.2.1 _ _) hz.2.1.1 hz.2.1.k0 ⟨rfl, rfl⟩ rfl rfl rfl ?_
    exact hE _ _ _ _ dX10_count_151 (by simp [pI, zCount, toNum, s_0, s_1, s_2, s_3, s_4])
  by_cases s_5 : x = 5
  · skip
    refine r_tsw (y := 5) (off := 151) (tgt := 152) C dX10_count_1 s_5 (by decide +kernel) rfl ?_
    refine r_aload_n C dX10_count_152 rfl ?_
    refine gf_X10_10 C dX10_count_153 hz.1 hz.2.2.2.2.2 ?_
    refine cvI_X10_195 C dX10_count_156 (c_X1_acknowledgedIncidents 1 hz.2.1) hz.2.1.1 hz.2.1.k0 ⟨rfl, rfl⟩ rfl rfl rfl ?_
    exact hE _ _ _ _ dX10_count_159 (by simp [pI, zCount, toNum, s_0, s_1, s_2, s_3, s_4, s_5])
  by_cases s_6 : x = 6
  · skip
    refine r_tsw (y := 6) (off := 209) (tgt := 210) C dX10_count_1 s_6 (by decide +kernel) rfl ?_
    refine r_aload_n C dX10_count_210 rfl ?_
    refine gf_X10_10 C dX10_count_211 hz.1 hz.2.2.2.2.2 ?_
    refine gf_X10_213 C dX10_count_214 hz.2.1.1 hz.2.1.k0 ?_
    refine r_iload_n C dX10_count_217 rfl ?_
    refine cvI_X10_217 C dX10_count_218 (c_X9_numbered _ hz.2.1.2.2.2.1 (hz.2.1.k (by decide)) _) hz.2.1.2.2.2.1 (hz.2.1.k (by decide)) ⟨rfl, rfl⟩ rfl rfl rfl ?_
    exact hE _ _ _ _ dX10_count_221 (by simp [pI, zCount, toNum, s_0, s_1, s_2, s_3, s_4, s_5, s_6])
  by_cases s_7 : x = 7
  · skip
    refine r_tsw (y := 7) (off := 209) (tgt := 210) C dX10_count_1 s_7 (by decide +kernel) rfl ?_
    refine r_aload_n C dX10_count_210 rfl ?_
    refine gf_X10_10 C dX10_count_211 hz.1 hz.2.2.2.2.2 ?_
    refine gf_X10_213 C dX10_count_214 hz.2.1.1 hz.2.1.k0 ?_
    refine r_iload_n C dX10_count_217 rfl ?_
    refine cvI_X10_217 C dX10_count_218 (c_X9_numbered _ hz.2.1.2.2.2.1 (hz.2.1.k (by decide)) _) hz.2.1.2.2.2.1 (hz.2.1.k (by decide)) ⟨rfl, rfl⟩ rfl rfl rfl ?_
    exact hE _ _ _ _ dX10_count_221 (by simp [pI, zCount, toNum, s_0, s_1, s_2, s_3, s_4, s_5, s_6, s_7])
  by_cases s_8 : x = 8
  · skip
    refine r_tsw (y := 8) (off := 209) (tgt := 210) C dX10_count_1 s_8 (by decide +kernel) rfl ?_
    refine r_aload_n C dX10_count_210 rfl ?_
    refine gf_X10_10 C dX10_count_211 hz.1 hz.2.2.2.2.2 ?_
    refine gf_X10_213 C dX10_count_214 hz.2.1.1 hz.2.1.k0 ?_
    refine r_iload_n C dX10_count_217 rfl ?_
    refine cvI_X10_217 C dX10_count_218 (c_X9_numbered _ hz.2.1.2.2.2.1 (hz.2.1.k (by decide)) _) hz.2.1.2.2.2.1 (hz.2.1.k (by decide)) ⟨rfl, rfl⟩ rfl rfl rfl ?_
    exact hE _ _ _ _ dX10_count_221 (by simp [pI, zCount, toNum, s_0, s_1, s_2, s_3, s_4, s_5, s_6, s_7, s_8])
  by_cases s_9 : x = 9
  · skip
    refine r_tsw (y := 9) (off := 209) (tgt := 210) C dX10_count_1 s_9 (by decide +kernel) rfl ?_
    refine r_aload_n C dX10_count_210 rfl ?_
    refine gf_X10_10 C dX10_count_211 hz.1 hz.2.2.2.2.2 ?_
    refine gf_X10_213 C dX10_count_214 hz.2.1.1 hz.2.1.k0 ?_
    refine r_iload_n C dX10_count_217 rfl ?_
    refine cvI_X10_217 C dX10_count_218 (c_X9_numbered _ hz.2.1.2.2.2.1 (hz.2.1.k (by decide)) _) hz.2.1.2.2.2.1 (hz.2.1.k (by decide)) ⟨rfl, rfl⟩ rfl rfl rfl ?_
    exact hE _ _ _ _ dX10_count_221 (by simp [pI, zCount, toNum, s_0, s_1, s_2, s_3, s_4, s_5, s_6, s_7, s_8, s_9])
  by_cases s_10 : x = 10
  · skip
    refine r_tsw (y := 10) (off := 209) (tgt := 210) C dX10_count_1 s_10 (by decide +kernel) rfl ?_
    refine r_aload_n C dX10_count_210 rfl ?_
    refine gf_X10_10 C dX10_count_211 hz.1 hz.2.2.2.2.2 ?_
    refine gf_X10_213 C dX10_count_214 hz.2.1.1 hz.2.1.k0 ?_
    refine r_iload_n C dX10_count_217 rfl ?_
    refine cvI_X10_217 C dX10_count_218 (c_X9_numbered _ hz.2.1.2.2.2.1 (hz.2.1.k (by decide)) _) hz.2.1.2.2.2.1 (hz.2.1.k (by decide)) ⟨rfl, rfl⟩ rfl rfl rfl ?_
    exact hE _ _ _ _ dX10_count_221 (by simp [pI, zCount, toNum, s_0, s_1, s_2, s_3, s_4, s_5, s_6, s_7, s_8, s_9, s_10])
  by_cases s_11 : x = 11
  · skip
    refine r_tsw (y := 11) (off := 209) (tgt := 210) C dX10_count_1 s_11 (by decide +kernel) rfl ?_
    refine r_aload_n C dX10_count_210 rfl ?_
    refine gf_X10_10 C dX10_count_211 hz.1 hz.2.2.2.2.2 ?_
    refine gf_X10_213 C dX10_count_214 hz.2.1.1 hz.2.1.k0 ?_
    refine r_iload_n C dX10_count_217 rfl ?_
    refine cvI_X10_217 C dX10_count_218 (c_X9_numbered _ hz.2.1.2.2.2.1 (hz.2.1.k (by decide)) _) hz.2.1.2.2.2.1 (hz.2.1.k (by decide)) ⟨rfl, rfl⟩ rfl rfl rfl ?_
    exact hE _ _ _ _ dX10_count_221 (by simp [pI, zCount, toNum, s_0, s_1, s_2, s_3, s_4, s_5, s_6, s_7, s_8, s_9, s_10, s_11])
  by_cases s_12 : x = 12
  · skip
    refine r_tsw (y := 12) (off := 209) (tgt := 210) C dX10_count_1 s_12 (by decide +kernel) rfl ?_
    refine r_aload_n C dX10_count_210 rfl ?_
    refine gf_X10_10 C dX10_count_211 hz.1 hz.2.2.2.2.2 ?_
    refine gf_X10_213 C dX10_count_214 hz.2.1.1 hz.2.1.k0 ?_
    refine r_iload_n C dX10_count_217 rfl ?_
    refine cvI_X10_217 C dX10_count_218 (c_X9_numbered _ hz.2.1.2.2.2.1 (hz.2.1.k (by decide)) _) hz.2.1.2.2.2.1 (hz.2.1.k (by decide)) ⟨rfl, rfl⟩ rfl rfl rfl ?_
    exact hE _ _ _ _ dX10_count_221 (by simp [pI, zCount, toNum, s_0, s_1, s_2, s_3, s_4, s_5, s_6, s_7, s_8, s_9, s_10, s_11, s_12])
  by_cases s_13 : x = 13
  · skip
    refine r_tsw (y := 13) (off := 159) (tgt := 160) C dX10_count_1 s_13 (by decide +kernel) rfl ?_
    refine r_aload_n C dX10_count_160 rfl ?_
    refine gf_X10_10 C dX10_count_161 hz.1 hz.2.2.2.2.2 ?_
    refine gf_X10_37 C dX10_count_164 hz.2.1.1 hz.2.1.k0 ?_
    refine r_aload_n C dX10_count_167 rfl ?_
    refine gf_X10_10 C dX10_count_168 hz.1 hz.2.2.2.2.2 ?_
    refine gf_X10_111 C dX10_count_171 hz.2.1.1 hz.2.1.k0 ?_
    refine cvI_X10_198 C dX10_count_174 (c_X5_standInsAt 1 hz.2.1.2.1 _) hz.2.1.2.1.1 (hz.2.1.2.1.k (by decide)) ⟨rfl, rfl⟩ rfl rfl rfl ?_
    exact hE _ _ _ _ dX10_count_177 (by simp [pI, zCount, toNum, s_0, s_1, s_2, s_3, s_4, s_5, s_6, s_7, s_8, s_9, s_10, s_11, s_12, s_13])
  by_cases s_14 : x = 14
  · skip
    refine r_tsw (y := 14) (off := 177) (tgt := 178) C dX10_count_1 s_14 (by decide +kernel) rfl ?_
    refine r_aload_n C dX10_count_178 rfl ?_
    refine gf_X10_22 C dX10_count_179 hz.1 hz.2.2.2.2.2 ?_
    refine gf_X10_201 C dX10_count_182 hz.2.2.2.1.1 hz.2.2.2.1.k0 ?_
    exact hE _ _ _ _ dX10_count_185 (by simp [pI, zCount, toNum, s_0, s_1, s_2, s_3, s_4, s_5, s_6, s_7, s_8, s_9, s_10, s_11, s_12, s_13, s_14])
  by_cases s_15 : x = 15
  · skip
    refine r_tsw (y := 15) (off := 185) (tgt := 186) C dX10_count_1 s_15 (by decide +kernel) rfl ?_
    refine r_aload_n C dX10_count_186 rfl ?_
    refine gf_X10_29 C dX10_count_187 hz.1 hz.2.2.2.2.2 ?_
    refine gf_X10_204 C dX10_count_190 hz.2.2.2.2.1.1 hz.2.2.2.2.1.k0 ?_
    exact hE _ _ _ _ dX10_count_193 (by simp [pI, zCount, toNum, s_0, s_1, s_2, s_3, s_4, s_5, s_6, s_7, s_8, s_9, s_10, s_11, s_12, s_13, s_14, s_15])
  by_cases s_16 : x = 16
  · skip
    refine r_tsw (y := 16) (off := 209) (tgt := 210) C dX10_count_1 s_16 (by decide +kernel) rfl ?_
    refine r_aload_n C dX10_count_210 rfl ?_
    refine gf_X10_10 C dX10_count_211 hz.1 hz.2.2.2.2.2 ?_
    refine gf_X10_213 C dX10_count_214 hz.2.1.1 hz.2.1.k0 ?_
    refine r_iload_n C dX10_count_217 rfl ?_
    refine cvI_X10_217 C dX10_count_218 (c_X9_numbered _ hz.2.1.2.2.2.1 (hz.2.1.k (by decide)) _) hz.2.1.2.2.2.1 (hz.2.1.k (by decide)) ⟨rfl, rfl⟩ rfl rfl rfl ?_
    exact hE _ _ _ _ dX10_count_221 (by simp [pI, zCount, toNum, s_0, s_1, s_2, s_3, s_4, s_5, s_6, s_7, s_8, s_9, s_10, s_11, s_12, s_13, s_14, s_15, s_16])
  by_cases s_17 : x = 17
  · skip
    refine r_tsw (y := 17) (off := 209) (tgt := 210) C dX10_count_1 s_17 (by decide +kernel) rfl ?_
    refine r_aload_n C dX10_count_210 rfl ?_
    refine gf_X10_10 C dX10_count_211 hz.1 hz.2.2.2.2.2 ?_
    refine gf_X10_213 C dX10_count_214 hz.2.1.1 hz.2.1.k0 ?_
    refine r_iload_n C dX10_count_217 rfl ?_
    refine cvI_X10_217 C dX10_count_218 (c_X9_numbered _ hz.2.1.2.2.2.1 (hz.2.1.k (by decide)) _) hz.2.1.2.2.2.1 (hz.2.1.k (by decide)) ⟨rfl, rfl⟩ rfl rfl rfl ?_
    exact hE _ _ _ _ dX10_count_221 (by simp [pI, zCount, toNum, s_0, s_1, s_2, s_3, s_4, s_5, s_6, s_7, s_8, s_9, s_10, s_11, s_12, s_13, s_14, s_15, s_16, s_17])
  by_cases s_18 : x = 18
  · skip
    refine r_tsw (y := 18) (off := 209) (tgt := 210) C dX10_count_1 s_18 (by decide +kernel) rfl ?_
    refine r_aload_n C dX10_count_210 rfl ?_
    refine gf_X10_10 C dX10_count_211 hz.1 hz.2.2.2.2.2 ?_
    refine gf_X10_213 C dX10_count_214 hz.2.1.1 hz.2.1.k0 ?_
    refine r_iload_n C dX10_count_217 rfl ?_
    refine cvI_X10_217 C dX10_count_218 (c_X9_numbered _ hz.2.1.2.2.2.1 (hz.2.1.k (by decide)) _) hz.2.1.2.2.2.1 (hz.2.1.k (by decide)) ⟨rfl, rfl⟩ rfl rfl rfl ?_
    exact hE _ _ _ _ dX10_count_221 (by simp [pI, zCount, toNum, s_0, s_1, s_2, s_3, s_4, s_5, s_6, s_7, s_8, s_9, s_10, s_11, s_12, s_13, s_14, s_15, s_16, s_17, s_18])
  by_cases s_19 : x = 19
  · skip
    refine r_tsw (y := 19) (off := 209) (tgt := 210) C dX10_count_1 s_19 (by decide +kernel) rfl ?_
    refine r_aload_n C dX10_count_210 rfl ?_
    refine gf_X10_10 C dX10_count_211 hz.1 hz.2.2.2.2.2 ?_
    refine gf_X10_213 C dX10_count_214 hz.2.1.1 hz.2.1.k0 ?_
    refine r_iload_n C dX10_count_217 rfl ?_
    refine cvI_X10_217 C dX10_count_218 (c_X9_numbered _ hz.2.1.2.2.2.1 (hz.2.1.k (by decide)) _) hz.2.1.2.2.2.1 (hz.2.1.k (by decide)) ⟨rfl, rfl⟩ rfl rfl rfl ?_
    exact hE _ _ _ _ dX10_count_221 (by simp [pI, zCount, toNum, s_0, s_1, s_2, s_3, s_4, s_5, s_6, s_7, s_8, s_9, s_10, s_11, s_12, s_13, s_14, s_15, s_16, s_17, s_18, s_19])
  by_cases s_20 : x = 20
  · skip
    refine r_tsw (y := 20) (off := 193) (tgt := 194) C dX10_count_1 s_20 (by decide +kernel) rfl ?_
    refine r_aload_n C dX10_count_194 rfl ?_
    refine gf_X10_10 C dX10_count_195 hz.1 hz.2.2.2.2.2 ?_
    refine gf_X10_207 C dX10_count_198 hz.2.1.1 hz.2.1.k0 ?_
    exact hE _ _ _ _ dX10_count_201 (by simp [pI, zCount, toNum, s_0, s_1, s_2, s_3, s_4, s_5, s_6, s_7, s_8, s_9, s_10, s_11, s_12, s_13, s_14, s_15, s_16, s_17, s_18, s_19, s_20])
  by_cases s_21 : x = 21
  · skip
    refine r_tsw (y := 21) (off := 201) (tgt := 202) C dX10_count_1 s_21 (by decide +kernel) rfl ?_
    refine r_aload_n C dX10_count_202 rfl ?_
    refine gf_X10_10 C dX10_count_203 hz.1 hz.2.2.2.2.2 ?_
    refine gf_X10_210 C dX10_count_206 hz.2.1.1 hz.2.1.k0 ?_
    exact hE _ _ _ _ dX10_count_209 (by simp [pI, zCount, toNum, s_0, s_1, s_2, s_3, s_4, s_5, s_6, s_7, s_8, s_9, s_10, s_11, s_12, s_13, s_14, s_15, s_16, s_17, s_18, s_19, s_20, s_21])
  refine r_tswd (tgt := 210) (lo := 0) (cnt := 22) C dX10_count_1 (fun j hj => match j, hj with | 0, _ => s_0 | 1, _ => s_1 | 2, _ => s_2 | 3, _ => s_3 | 4, _ => s_4 | 5, _ => s_5 | 6, _ => s_6 | 7, _ => s_7 | 8, _ => s_8 | 9, _ => s_9 | 10, _ => s_10 | 11, _ => s_11 | 12, _ => s_12 | 13, _ => s_13 | 14, _ => s_14 | 15, _ => s_15 | 16, _ => s_16 | 17, _ => s_17 | 18, _ => s_18 | 19, _ => s_19 | 20, _ => s_20 | 21, _ => s_21 | (j + 22), h => absurd h (by omega)) rfl rfl ?_
  refine r_aload_n C dX10_count_210 rfl ?_
  refine gf_X10_10 C dX10_count_211 hz.1 hz.2.2.2.2.2 ?_
  refine gf_X10_213 C dX10_count_214 hz.2.1.1 hz.2.1.k0 ?_
  refine r_iload_n C dX10_count_217 rfl ?_
  refine cvI_X10_217 C dX10_count_218 (c_X9_numbered _ hz.2.1.2.2.2.1 (hz.2.1.k (by decide)) _) hz.2.1.2.2.2.1 (hz.2.1.k (by decide)) ⟨rfl, rfl⟩ rfl rfl rfl ?_
  exact hE _ _ _ _ dX10_count_221 (by simp [pI, zCount, toNum, s_0, s_1, s_2, s_3, s_4, s_5, s_6, s_7, s_8, s_9, s_10, s_11, s_12, s_13, s_14, s_15, s_16, s_17, s_18, s_19, s_20, s_21])
set_option maxRecDepth 100000 in
set_option maxHeartbeats 4000000 in
theorem c_X10_onCall {g : mG} {l : Launch} {tpl : mT} {b n : Nat} {v : mV} (hz : isZ g tpl b n) (hc : CI v) (x y : Int32) : CT g l tpl b n yX10_onCall cX10_onCall 6 (some .int) rm_X10_onCall [.ref (b + 0), .int x, .int y] v (pI (zOnCall v x y) v) := by
  refine CT.introI [some (.ref (b + 0)), some (.int x), some (.int y), none, none, none] (own := RX10) (by decide +kernel) rfl rfl rfl rfl ?_
  intro p e s m args below meth c Q C hE
  refine r_iload_n C dX10_onCall_0 rfl ?_
  refine r_if_lt (tgt := 22) C dX10_onCall_1 rfl (fun c_1 => ?_) (fun c_1 => ?_)
  · skip
    refine r_iconst C dX10_onCall_22 ic_m1 ?_
    exact hE _ _ _ _ dX10_onCall_23 (by simp [pI, zOnCall, zFound, c_1])
  · skip
    refine r_iload_n C dX10_onCall_4 rfl ?_
    refine r_sipush C dX10_onCall_5 sp_30000 ?_
    refine r_icmp_gt (tgt := 22) C dX10_onCall_8 rfl (fun c_8 => ?_) (fun c_8 => ?_)
    · skip
      refine r_iconst C dX10_onCall_22 ic_m1 ?_
      exact hE _ _ _ _ dX10_onCall_23 (by simp [pI, zOnCall, zFound, c_1, c_8])
    · skip
      refine r_iload_n C dX10_onCall_11 rfl ?_
      refine r_iconst C dX10_onCall_12 ic_m1 ?_
      refine r_icmp_lt (tgt := 22) C dX10_onCall_13 rfl (fun c_13 => ?_) (fun c_13 => ?_)
      · skip
        refine r_iconst C dX10_onCall_22 ic_m1 ?_
        exact hE _ _ _ _ dX10_onCall_23 (by simp [pI, zOnCall, zFound, c_1, c_8, c_13])
      · skip
        refine r_iload_n C dX10_onCall_16 rfl ?_
        refine r_bipush C dX10_onCall_17 bp_9 ?_
        refine r_icmp_le (tgt := 24) C dX10_onCall_19 rfl (fun c_19 => ?_) (fun c_19 => ?_)
        · skip
          refine r_aload_n C dX10_onCall_24 rfl ?_
          refine gf_X10_10 C dX10_onCall_25 hz.1 hz.2.2.2.2.2 ?_
          refine gf_X10_111 C dX10_onCall_28 hz.2.1.1 hz.2.1.k0 ?_
          refine r_iload_n C dX10_onCall_31 rfl ?_
          refine r_iadd C dX10_onCall_32 ?_
          refine r_istore_n C dX10_onCall_33 rfl rfl ?_
          refine r_aload_n C dX10_onCall_34 rfl ?_
          refine gf_X10_10 C dX10_onCall_35 hz.1 hz.2.2.2.2.2 ?_
          refine gf_X10_37 C dX10_onCall_38 hz.2.1.1 hz.2.1.k0 ?_
          refine r_iload_n C dX10_onCall_41 rfl ?_
          refine cvI_X10_222 C dX10_onCall_42 (c_X5_regionAt 1 hz.2.1.2.1 _) hz.2.1.2.1.1 (hz.2.1.2.1.k (by decide)) ⟨rfl, rfl⟩ rfl rfl rfl ?_
          refine r_istore C dX10_onCall_45 rfl rfl ?_
          refine r_iload_n C dX10_onCall_47 rfl ?_
          refine r_iconst C dX10_onCall_48 ic_m1 ?_
          refine r_icmp_ne (tgt := 57) C dX10_onCall_49 rfl (fun c_49 => ?_) (fun c_49 => ?_)
          · skip
            obtain ⟨q, hq6, hq⟩ := hc.1
            refine r_aload_n C dX10_onCall_57 rfl ?_
            refine gf_X10_10 C dX10_onCall_58 hz.1 hz.2.2.2.2.2 ?_
            refine gf_X10_37 C dX10_onCall_61 hz.2.1.1 hz.2.1.k0 ?_
            refine r_iload C dX10_onCall_64 rfl ?_
            refine r_iload_n C dX10_onCall_66 rfl ?_
            refine r_iload_n C dX10_onCall_67 rfl ?_
            refine cvI_X10_225 C dX10_onCall_68 (c_X5_personAt 1 hz.2.1.2.1 q hq hq6 _ _ _) hz.2.1.2.1.1 (hz.2.1.2.1.k (by decide)) ⟨rfl, rfl⟩ rfl rfl rfl ?_
            refine r_istore C dX10_onCall_71 rfl rfl ?_
            refine r_iload C dX10_onCall_73 rfl ?_
            refine r_iconst C dX10_onCall_75 ic_m1 ?_
            refine r_icmp_ne (tgt := 84) C dX10_onCall_76 rfl (fun c_76 => ?_) (fun c_76 => ?_)
            · skip
              refine r_iload C dX10_onCall_84 rfl ?_
              exact hE _ _ _ _ dX10_onCall_86 (by simp [pI, zOnCall, zFound, c_1, c_8, c_13, c_19, c_49, c_76])
            · skip
              refine r_bipush C dX10_onCall_79 bp_m4 ?_
              refine r_goto (tgt := 86) C dX10_onCall_81 rfl ?_
              exact hE _ _ _ _ dX10_onCall_86 (by simp [pI, zOnCall, zFound, c_1, c_8, c_13, c_19, c_49, c_76])
          · skip
            refine r_iload C dX10_onCall_52 rfl ?_
            refine r_goto (tgt := 71) C dX10_onCall_54 rfl ?_
            refine r_istore C dX10_onCall_71 rfl rfl ?_
            refine r_iload C dX10_onCall_73 rfl ?_
            refine r_iconst C dX10_onCall_75 ic_m1 ?_
            refine r_icmp_ne (tgt := 84) C dX10_onCall_76 rfl (fun c_76 => ?_) (fun c_76 => ?_)
            · skip
              refine r_iload C dX10_onCall_84 rfl ?_
              exact hE _ _ _ _ dX10_onCall_86 (by simp [pI, zOnCall, zFound, c_1, c_8, c_13, c_19, c_49, c_76])
            · skip
              refine r_bipush C dX10_onCall_79 bp_m4 ?_
              refine r_goto (tgt := 86) C dX10_onCall_81 rfl ?_
              exact hE _ _ _ _ dX10_onCall_86 (by simp [pI, zOnCall, zFound, c_1, c_8, c_13, c_19, c_49, c_76])
        · skip
          refine r_iconst C dX10_onCall_22 ic_m1 ?_
          exact hE _ _ _ _ dX10_onCall_23 (by simp [pI, zOnCall, zFound, c_1, c_8, c_13, c_19])
set_option maxRecDepth 100000 in
set_option maxHeartbeats 4000000 in
theorem c_X10_uncovered {g : mG} {l : Launch} {tpl : mT} {b n : Nat} {v : mV} (hz : isZ g tpl b n) (hc : CI v) : CT g l tpl b n yX10_uncovered cX10_uncovered 3 (some .int) rm_X10_uncovered [.ref (b + 0)] v (pI (cntLp (zUncN v) 24 0 0) v) := by
  refine CT.introI [some (.ref (b + 0)), none, none] (own := RX10) (by decide +kernel) rfl rfl rfl rfl ?_
  intro p e s m args below meth c Q C hE
  refine r_iconst C dX10_uncovered_0 ic_0 ?_
  refine r_istore_n C dX10_uncovered_1 rfl rfl ?_
  refine r_iconst C dX10_uncovered_2 ic_0 ?_
  refine r_istore_n C dX10_uncovered_3 rfl rfl ?_
  have loop_4 : ∀ (r : Nat) (i : Nat) (a : Int32), (i + r = 24) → (cntLp (zUncN v) r i a = cntLp (zUncN v) 24 0 0) → WM g p l e rm_X10_uncovered s m args below meth c Q tpl b n v 4 [some (.ref (b + 0)), some (.int a), some (.int (nI i))] [] := by
    intro r
    induction r with
    | zero =>
      intro i a hi hR
      refine r_iload_n C dX10_uncovered_4 rfl ?_
      refine r_bipush C dX10_uncovered_5 bp_24 ?_
      refine r_icmp_ge (tgt := 37) C dX10_uncovered_7 rfl (fun c_7 => ?_) (fun c_7 => ?_)
      · skip
        refine r_iload_n C dX10_uncovered_37 rfl ?_
        exact hE _ _ _ _ dX10_uncovered_38 (by rw [← hR]; simp (disch := omega) [pI, pV, cntLp, c_7])
      · exact absurd c_7 (nI_nlt (a := i) (b := 24) (by omega) (by omega))
    | succ r ih_4 =>
      intro i a hi hR
      refine r_iload_n C dX10_uncovered_4 rfl ?_
      refine r_bipush C dX10_uncovered_5 bp_24 ?_
      refine r_icmp_ge (tgt := 37) C dX10_uncovered_7 rfl (fun c_7 => ?_) (fun c_7 => ?_)
      · exact absurd (nI_lt (a := i) (b := 24) (by omega) (by omega)) c_7
      · skip
        refine r_aload_n C dX10_uncovered_10 rfl ?_
        refine gf_X10_10 C dX10_uncovered_11 hz.1 hz.2.2.2.2.2 ?_
        refine gf_X10_37 C dX10_uncovered_14 hz.2.1.1 hz.2.1.k0 ?_
        refine r_iload_n C dX10_uncovered_17 rfl ?_
        refine r_bipush C dX10_uncovered_18 bp_60 ?_
        refine r_imul C dX10_uncovered_20 ?_
        refine cvI_X10_222 C dX10_uncovered_21 (c_X5_regionAt 1 hz.2.1.2.1 _) hz.2.1.2.1.1 (hz.2.1.2.1.k (by decide)) ⟨rfl, rfl⟩ rfl rfl rfl ?_
        refine r_iconst C dX10_uncovered_24 ic_m1 ?_
        refine r_icmp_ne (tgt := 31) C dX10_uncovered_25 rfl (fun c_25 => ?_) (fun c_25 => ?_)
        · skip
          refine r_iinc C dX10_uncovered_31 rfl (nI_inc _) rfl ?_
          refine r_goto (tgt := 4) C dX10_uncovered_34 rfl ?_
          exact ih_4 (i + 1) _ (by omega) (by rw [← hR]; simp [cntLp, zUncN, c_7, c_25])
        · skip
          refine r_iinc C dX10_uncovered_28 rfl (iinc_1 _) rfl ?_
          refine r_iinc C dX10_uncovered_31 rfl (nI_inc _) rfl ?_
          refine r_goto (tgt := 4) C dX10_uncovered_34 rfl ?_
          exact ih_4 (i + 1) _ (by omega) (by rw [← hR]; simp [cntLp, zUncN, c_7, c_25])
  exact loop_4 24 0 0 rfl rfl
