set_option maxRecDepth 100000 in
set_option maxHeartbeats 4000000 in
theorem c_X11_in {g : mG} {l : Launch} {tpl : mT} {b n : Nat} {v : mV} (x y z : Int32) : CT g l tpl b n yX11_in cX11_in 3 (some .boolean) rm_X11_in [.int x, .int y, .int z] v (pI (mIn x y z) v) := by
  refine CT.introZ [some (.int x), some (.int y), some (.int z)] (own := RX11) (by decide +kernel) rfl rfl rfl rfl ?_
  intro p e s m args below meth c Q C hE
  refine r_iload_n C dX11_in_0 rfl ?_
  refine r_iload_n C dX11_in_1 rfl ?_
  refine r_icmp_lt (tgt := 14) C dX11_in_2 rfl (fun c_2 => ?_) (fun c_2 => ?_)
  · skip
    try simp (disch := omega) only [Nat.add_zero] at c_2
    refine r_iconst C dX11_in_14 ic_0 ?_
    exact hE _ _ _ _ (nar_b (Or.inl rfl)) dX11_in_15 (by first | with_reducible exact ⟨rfl, rfl⟩ | (simp (disch := omega) [pI, pV, mIn, c_2, u2_o, u2_r, upd_o, upd_r]))
  · skip
    try simp (disch := omega) only [Nat.add_zero] at c_2
    refine r_iload_n C dX11_in_5 rfl ?_
    refine r_iload_n C dX11_in_6 rfl ?_
    refine r_icmp_gt (tgt := 14) C dX11_in_7 rfl (fun c_7 => ?_) (fun c_7 => ?_)
    · skip
      try simp (disch := omega) only [Nat.add_zero] at c_7
      refine r_iconst C dX11_in_14 ic_0 ?_
      exact hE _ _ _ _ (nar_b (Or.inl rfl)) dX11_in_15 (by first | with_reducible exact ⟨rfl, rfl⟩ | (simp (disch := omega) [pI, pV, mIn, c_2, c_7, u2_o, u2_r, upd_o, upd_r]))
    · skip
      try simp (disch := omega) only [Nat.add_zero] at c_7
      refine r_iconst C dX11_in_10 ic_1 ?_
      refine r_goto (tgt := 15) C dX11_in_11 rfl ?_
      exact hE _ _ _ _ (nar_b (Or.inr rfl)) dX11_in_15 (by first | with_reducible exact ⟨rfl, rfl⟩ | (simp (disch := omega) [pI, pV, mIn, c_2, c_7, u2_o, u2_r, upd_o, upd_r]))
set_option maxRecDepth 100000 in
set_option maxHeartbeats 4000000 in
theorem c_X11_isPerson {g : mG} {l : Launch} {tpl : mT} {b n : Nat} {v : mV} {σ : Nat → Int32} (hm : isM g tpl b n) (x : Int32) : CT g l tpl b n yX11_isPerson cX11_isPerson 2 (some .boolean) rm_X11_isPerson [.ref (b + 0), .int x] (sv v σ) (pI (mIn x 0 (σ 0 - 1)) (sv v σ)) := by
  refine CT.introZ [some (.ref (b + 0)), some (.int x)] (own := RX11) (by decide +kernel) rfl rfl rfl rfl ?_
  intro p e s m args below meth c Q C hE
  refine r_iload_n C dX11_isPerson_0 rfl ?_
  refine r_iconst C dX11_isPerson_1 ic_0 ?_
  refine r_aload_n C dX11_isPerson_2 rfl ?_
  refine gf_X11_7 C dX11_isPerson_3 hm.1 (hm.k (by decide)) ?_
  refine r_iconst C dX11_isPerson_6 ic_0 ?_
  refine r_sld C dX11_isPerson_7 hm (j := 0) kn_0 (by omega) ?_
  refine r_iconst C dX11_isPerson_8 ic_1 ?_
  refine r_isub C dX11_isPerson_9 ?_
  refine cvI_X11_32 C dX11_isPerson_10 (c_X11_in _ _ _) ⟨rfl, rfl⟩ rfl rfl rfl ?_
  exact hE _ _ _ _ (nar_b (mIn_01 _ _ _)) dX11_isPerson_13 (And.intro rfl rfl)
set_option maxRecDepth 100000 in
set_option maxHeartbeats 4000000 in
theorem c_X11_isRegion {g : mG} {l : Launch} {tpl : mT} {b n : Nat} {v : mV} {σ : Nat → Int32} (hm : isM g tpl b n) (x : Int32) : CT g l tpl b n yX11_isRegion cX11_isRegion 2 (some .boolean) rm_X11_isRegion [.ref (b + 0), .int x] (sv v σ) (pI (mIn x 0 (σ 1 - 1)) (sv v σ)) := by
  refine CT.introZ [some (.ref (b + 0)), some (.int x)] (own := RX11) (by decide +kernel) rfl rfl rfl rfl ?_
  intro p e s m args below meth c Q C hE
  refine r_iload_n C dX11_isRegion_0 rfl ?_
  refine r_iconst C dX11_isRegion_1 ic_0 ?_
  refine r_aload_n C dX11_isRegion_2 rfl ?_
  refine gf_X11_7 C dX11_isRegion_3 hm.1 (hm.k (by decide)) ?_
  refine r_iconst C dX11_isRegion_6 ic_1 ?_
  refine r_sld C dX11_isRegion_7 hm (j := 1) kn_1 (by omega) ?_
  refine r_iconst C dX11_isRegion_8 ic_1 ?_
  refine r_isub C dX11_isRegion_9 ?_
  refine cvI_X11_32 C dX11_isRegion_10 (c_X11_in _ _ _) ⟨rfl, rfl⟩ rfl rfl rfl ?_
  exact hE _ _ _ _ (nar_b (mIn_01 _ _ _)) dX11_isRegion_13 (And.intro rfl rfl)
set_option maxRecDepth 100000 in
set_option maxHeartbeats 4000000 in
theorem c_X11_incidentAt {g : mG} {l : Launch} {tpl : mT} {b n : Nat} {v : mV} (x : Int32) : CT g l tpl b n yX11_incidentAt cX11_incidentAt 1 (some .int) rm_X11_incidentAt [.int x] v (pI (101 + 16 * x) v) := by
  refine CT.introI [some (.int x)] (own := RX11) (by decide +kernel) rfl rfl rfl rfl ?_
  intro p e s m args below meth c Q C hE
  refine r_bipush C dX11_incidentAt_0 bp_101 ?_
  refine r_bipush C dX11_incidentAt_2 bp_16 ?_
  refine r_iload_n C dX11_incidentAt_4 rfl ?_
  refine r_imul C dX11_incidentAt_5 ?_
  refine r_iadd C dX11_incidentAt_6 ?_
  exact hE _ _ _ _ dX11_incidentAt_7 (And.intro rfl rfl)
set_option maxRecDepth 100000 in
set_option maxHeartbeats 4000000 in
theorem c_X11_isIncident {g : mG} {l : Launch} {tpl : mT} {b n : Nat} {v : mV} {σ : Nat → Int32} (hm : isM g tpl b n) (x : Int32) : CT g l tpl b n yX11_isIncident cX11_isIncident 2 (some .boolean) rm_X11_isIncident [.ref (b + 0), .int x] (sv v σ) (pI (mInc σ x) (sv v σ)) := by
  refine CT.introZ [some (.ref (b + 0)), some (.int x)] (own := RX11) (by decide +kernel) rfl rfl rfl rfl ?_
  intro p e s m args below meth c Q C hE
  refine r_iload_n C dX11_isIncident_0 rfl ?_
  refine r_iconst C dX11_isIncident_1 ic_0 ?_
  refine r_bipush C dX11_isIncident_2 bp_7 ?_
  refine cvI_X11_32 C dX11_isIncident_4 (c_X11_in _ _ _) ⟨rfl, rfl⟩ rfl rfl rfl ?_
  refine r_if_eq (tgt := 29) C dX11_isIncident_7 rfl (fun c_7 => ?_) (fun c_7 => ?_)
  · skip
    try simp (disch := omega) only [Nat.add_zero] at c_7
    refine r_iconst C dX11_isIncident_29 ic_0 ?_
    exact hE _ _ _ _ (nar_b (Or.inl rfl)) dX11_isIncident_30 (by simp [pI, mInc, c_7])
  · skip
    try simp (disch := omega) only [Nat.add_zero] at c_7
    obtain ⟨j, hj, rfl⟩ := mIn_7 c_7
    have nc : (nI j).toNatClampNeg = j := nI_clamp (by omega)
    refine r_aload_n C dX11_isIncident_10 rfl ?_
    refine gf_X11_7 C dX11_isIncident_11 hm.1 (hm.k (by decide)) ?_
    refine r_iload_n C dX11_isIncident_14 rfl ?_
    refine cvI_X11_36 C dX11_isIncident_15 (c_X11_incidentAt _) ⟨rfl, rfl⟩ rfl rfl rfl ?_
    refine r_iconst C dX11_isIncident_18 ic_0 ?_
    refine r_iadd C dX11_isIncident_19 ?_
    refine r_sld C dX11_isIncident_20 hm (j := (101 + 16 * j)) (na_add0 (na_add kn_101 (na_mul kn_16 rfl)) kn_0) (by omega) ?_
    refine r_iconst C dX11_isIncident_21 ic_1 ?_
    refine r_icmp_ne (tgt := 29) C dX11_isIncident_22 rfl (fun c_22 => ?_) (fun c_22 => ?_)
    · skip
      try simp (disch := omega) only [Nat.add_zero] at c_22
      refine r_iconst C dX11_isIncident_29 ic_0 ?_
      exact hE _ _ _ _ (nar_b (Or.inl rfl)) dX11_isIncident_30 (by simp [pI, mInc, c_7, nc, c_22])
    · skip
      try simp (disch := omega) only [Nat.add_zero] at c_22
      refine r_iconst C dX11_isIncident_25 ic_1 ?_
      refine r_goto (tgt := 30) C dX11_isIncident_26 rfl ?_
      exact hE _ _ _ _ (nar_b (Or.inr rfl)) dX11_isIncident_30 (by simp [pI, mInc, c_7, nc, c_22])
set_option maxRecDepth 100000 in
set_option maxHeartbeats 4000000 in
theorem c_X11_ofWho {g : mG} {l : Launch} {tpl : mT} {b n : Nat} {v : mV} {σ : Nat → Int32} (hm : isM g tpl b n) (x y : Int32) (i j : Nat) (hx : x = nI i) (hy : y = nI j) (hb : 16 + 5 * i + j < 229) : CT g l tpl b n yX11_ofWho cX11_ofWho 3 (some .int) rm_X11_ofWho [.ref (b + 0), .int x, .int y] (sv v σ) (pI (σ (16 + 5 * i + j)) (sv v σ)) := by
  refine CT.introI [some (.ref (b + 0)), some (.int x), some (.int y)] (own := RX11) (by decide +kernel) rfl rfl rfl rfl ?_
  intro p e s m args below meth c Q C hE
  refine r_aload_n C dX11_ofWho_0 rfl ?_
  refine gf_X11_7 C dX11_ofWho_1 hm.1 (hm.k (by decide)) ?_
  refine r_bipush C dX11_ofWho_4 bp_16 ?_
  refine r_iconst C dX11_ofWho_6 ic_5 ?_
  refine r_iload_n C dX11_ofWho_7 rfl ?_
  refine r_imul C dX11_ofWho_8 ?_
  refine r_iadd C dX11_ofWho_9 ?_
  refine r_iload_n C dX11_ofWho_10 rfl ?_
  refine r_iadd C dX11_ofWho_11 ?_
  refine r_sld C dX11_ofWho_12 hm (j := ((16 + (5 * i)) + j)) (na_add (na_add kn_16 (na_mul kn_5 hx)) hy) (by omega) ?_
  exact hE _ _ _ _ dX11_ofWho_13 (And.intro rfl rfl)
set_option maxRecDepth 100000 in
set_option maxHeartbeats 4000000 in
theorem c_X11_ofWhere {g : mG} {l : Launch} {tpl : mT} {b n : Nat} {v : mV} {σ : Nat → Int32} (hm : isM g tpl b n) (x y : Int32) (i j : Nat) (hx : x = nI i) (hy : y = nI j) (hb : 56 + 9 * i + j < 229) : CT g l tpl b n yX11_ofWhere cX11_ofWhere 3 (some .int) rm_X11_ofWhere [.ref (b + 0), .int x, .int y] (sv v σ) (pI (σ (56 + 9 * i + j)) (sv v σ)) := by
  refine CT.introI [some (.ref (b + 0)), some (.int x), some (.int y)] (own := RX11) (by decide +kernel) rfl rfl rfl rfl ?_
  intro p e s m args below meth c Q C hE
  refine r_aload_n C dX11_ofWhere_0 rfl ?_
  refine gf_X11_7 C dX11_ofWhere_1 hm.1 (hm.k (by decide)) ?_
  refine r_bipush C dX11_ofWhere_4 bp_56 ?_
  refine r_bipush C dX11_ofWhere_6 bp_9 ?_
  refine r_iload_n C dX11_ofWhere_8 rfl ?_
  refine r_imul C dX11_ofWhere_9 ?_
  refine r_iadd C dX11_ofWhere_10 ?_
  refine r_iload_n C dX11_ofWhere_11 rfl ?_
  refine r_iadd C dX11_ofWhere_12 ?_
  refine r_sld C dX11_ofWhere_13 hm (j := ((56 + (9 * i)) + j)) (na_add (na_add kn_56 (na_mul kn_9 hx)) hy) (by omega) ?_
  exact hE _ _ _ _ dX11_ofWhere_14 (And.intro rfl rfl)
set_option maxRecDepth 100000 in
set_option maxHeartbeats 4000000 in
theorem c_X11_isWithin {g : mG} {l : Launch} {tpl : mT} {b n : Nat} {v : mV} (x y z : Int32) : CT g l tpl b n yX11_isWithin cX11_isWithin 3 (some .boolean) rm_X11_isWithin [.int x, .int y, .int z] v (pI (fHas y z x) v) := by
  refine CT.introZ [some (.int x), some (.int y), some (.int z)] (own := RX11) (by decide +kernel) rfl rfl rfl rfl ?_
  intro p e s m args below meth c Q C hE
  refine r_iload_n C dX11_isWithin_0 rfl ?_
  refine r_iload_n C dX11_isWithin_1 rfl ?_
  refine r_icmp_gt (tgt := 23) C dX11_isWithin_2 rfl (fun c_2 => ?_) (fun c_2 => ?_)
  · skip
    try simp (disch := omega) only [Nat.add_zero] at c_2
    refine r_iload_n C dX11_isWithin_23 rfl ?_
    refine r_iload_n C dX11_isWithin_24 rfl ?_
    refine r_icmp_ge (tgt := 33) C dX11_isWithin_25 rfl (fun c_25 => ?_) (fun c_25 => ?_)
    · skip
      try simp (disch := omega) only [Nat.add_zero] at c_25
      refine r_iconst C dX11_isWithin_33 ic_1 ?_
      refine r_goto (tgt := 38) C dX11_isWithin_34 rfl ?_
      exact hE _ _ _ _ (nar_b (Or.inr rfl)) dX11_isWithin_38 (by first | with_reducible exact ⟨rfl, rfl⟩ | (simp (disch := omega) [pI, pV, fHas, c_2, c_25, u2_o, u2_r, upd_o, upd_r]))
    · skip
      try simp (disch := omega) only [Nat.add_zero] at c_25
      refine r_iload_n C dX11_isWithin_28 rfl ?_
      refine r_iload_n C dX11_isWithin_29 rfl ?_
      refine r_icmp_ge (tgt := 37) C dX11_isWithin_30 rfl (fun c_30 => ?_) (fun c_30 => ?_)
      · skip
        try simp (disch := omega) only [Nat.add_zero] at c_30
        refine r_iconst C dX11_isWithin_37 ic_0 ?_
        exact hE _ _ _ _ (nar_b (Or.inl rfl)) dX11_isWithin_38 (by first | with_reducible exact ⟨rfl, rfl⟩ | (simp (disch := omega) [pI, pV, fHas, c_2, c_25, c_30, u2_o, u2_r, upd_o, upd_r]))
      · skip
        try simp (disch := omega) only [Nat.add_zero] at c_30
        refine r_iconst C dX11_isWithin_33 ic_1 ?_
        refine r_goto (tgt := 38) C dX11_isWithin_34 rfl ?_
        exact hE _ _ _ _ (nar_b (Or.inr rfl)) dX11_isWithin_38 (by first | with_reducible exact ⟨rfl, rfl⟩ | (simp (disch := omega) [pI, pV, fHas, c_2, c_25, c_30, u2_o, u2_r, upd_o, upd_r]))
  · skip
    try simp (disch := omega) only [Nat.add_zero] at c_2
    refine r_iload_n C dX11_isWithin_5 rfl ?_
    refine r_iload_n C dX11_isWithin_6 rfl ?_
    refine r_icmp_lt (tgt := 19) C dX11_isWithin_7 rfl (fun c_7 => ?_) (fun c_7 => ?_)
    · skip
      try simp (disch := omega) only [Nat.add_zero] at c_7
      refine r_iconst C dX11_isWithin_19 ic_0 ?_
      refine r_goto (tgt := 38) C dX11_isWithin_20 rfl ?_
      exact hE _ _ _ _ (nar_b (Or.inl rfl)) dX11_isWithin_38 (by first | with_reducible exact ⟨rfl, rfl⟩ | (simp (disch := omega) [pI, pV, fHas, c_2, c_7, u2_o, u2_r, upd_o, upd_r]))
    · skip
      try simp (disch := omega) only [Nat.add_zero] at c_7
      refine r_iload_n C dX11_isWithin_10 rfl ?_
      refine r_iload_n C dX11_isWithin_11 rfl ?_
      refine r_icmp_ge (tgt := 19) C dX11_isWithin_12 rfl (fun c_12 => ?_) (fun c_12 => ?_)
      · skip
        try simp (disch := omega) only [Nat.add_zero] at c_12
        refine r_iconst C dX11_isWithin_19 ic_0 ?_
        refine r_goto (tgt := 38) C dX11_isWithin_20 rfl ?_
        exact hE _ _ _ _ (nar_b (Or.inl rfl)) dX11_isWithin_38 (by first | with_reducible exact ⟨rfl, rfl⟩ | (simp (disch := omega) [pI, pV, fHas, c_2, c_7, c_12, u2_o, u2_r, upd_o, upd_r]))
      · skip
        try simp (disch := omega) only [Nat.add_zero] at c_12
        refine r_iconst C dX11_isWithin_15 ic_1 ?_
        refine r_goto (tgt := 38) C dX11_isWithin_16 rfl ?_
        exact hE _ _ _ _ (nar_b (Or.inr rfl)) dX11_isWithin_38 (by first | with_reducible exact ⟨rfl, rfl⟩ | (simp (disch := omega) [pI, pV, fHas, c_2, c_7, c_12, u2_o, u2_r, upd_o, upd_r]))
set_option maxRecDepth 100000 in
set_option maxHeartbeats 4000000 in
theorem c_X11_covers {g : mG} {l : Launch} {tpl : mT} {b n : Nat} {v : mV} {σ : Nat → Int32} (hm : isM g tpl b n) (x y : Int32) (i : Nat) (hx : x = nI i) (hi : i < 3) : CT g l tpl b n yX11_covers cX11_covers 3 (some .boolean) rm_X11_covers [.ref (b + 0), .int x, .int y] (sv v σ) (pI (fCovers (σ (56 + 9 * i + 3)) (σ (56 + 9 * i)) (σ (56 + 9 * i + 1)) y) (sv v σ)) := by
  refine CT.introZ [some (.ref (b + 0)), some (.int x), some (.int y)] (own := RX11) (by decide +kernel) rfl rfl rfl rfl ?_
  intro p e s m args below meth c Q C hE
  refine r_aload_n C dX11_covers_0 rfl ?_
  refine r_iload_n C dX11_covers_1 rfl ?_
  refine r_iconst C dX11_covers_2 ic_3 ?_
  refine cvI_X11_40 C dX11_covers_3 (c_X11_ofWhere hm _ _ i 3 hx kn_3 (by omega)) hm.1 (hm.k (by decide)) ⟨rfl, rfl⟩ rfl rfl rfl ?_
  refine r_if_le (tgt := 32) C dX11_covers_6 rfl (fun c_6 => ?_) (fun c_6 => ?_)
  · skip
    try simp (disch := omega) only [Nat.add_zero] at c_6
    refine r_iconst C dX11_covers_32 ic_0 ?_
    exact hE _ _ _ _ (nar_b (Or.inl rfl)) dX11_covers_33 (by first | with_reducible exact ⟨rfl, rfl⟩ | (simp (disch := omega) [pI, pV, fCovers, c_6, u2_o, u2_r, upd_o, upd_r]))
  · skip
    try simp (disch := omega) only [Nat.add_zero] at c_6
    refine r_iload_n C dX11_covers_9 rfl ?_
    refine r_aload_n C dX11_covers_10 rfl ?_
    refine r_iload_n C dX11_covers_11 rfl ?_
    refine r_iconst C dX11_covers_12 ic_0 ?_
    refine cvI_X11_40 C dX11_covers_13 (c_X11_ofWhere hm _ _ i 0 hx kn_0 (by omega)) hm.1 (hm.k (by decide)) ⟨rfl, rfl⟩ rfl rfl rfl ?_
    refine r_aload_n C dX11_covers_16 rfl ?_
    refine r_iload_n C dX11_covers_17 rfl ?_
    refine r_iconst C dX11_covers_18 ic_1 ?_
    refine cvI_X11_40 C dX11_covers_19 (c_X11_ofWhere hm _ _ i 1 hx kn_1 (by omega)) hm.1 (hm.k (by decide)) ⟨rfl, rfl⟩ rfl rfl rfl ?_
    refine cvI_X11_44 C dX11_covers_22 (c_X11_isWithin _ _ _) ⟨rfl, rfl⟩ rfl rfl rfl ?_
    refine r_if_eq (tgt := 32) C dX11_covers_25 rfl (fun c_25 => ?_) (fun c_25 => ?_)
    · skip
      try simp (disch := omega) only [Nat.add_zero] at c_25
      refine r_iconst C dX11_covers_32 ic_0 ?_
      exact hE _ _ _ _ (nar_b (Or.inl rfl)) dX11_covers_33 (by first | with_reducible exact ⟨rfl, rfl⟩ | (simp (disch := omega) [pI, pV, fCovers, c_6, c_25, u2_o, u2_r, upd_o, upd_r]))
    · skip
      try simp (disch := omega) only [Nat.add_zero] at c_25
      refine r_iconst C dX11_covers_28 ic_1 ?_
      refine r_goto (tgt := 33) C dX11_covers_29 rfl ?_
      exact hE _ _ _ _ (nar_b (Or.inr rfl)) dX11_covers_33 (by first | with_reducible exact ⟨rfl, rfl⟩ | (simp (disch := omega) [pI, pV, fCovers, c_6, c_25, u2_o, u2_r, upd_o, upd_r]))
set_option maxRecDepth 100000 in
set_option maxHeartbeats 4000000 in
theorem c_X11_regionAt {g : mG} {l : Launch} {tpl : mT} {b n : Nat} {v : mV} {σ : Nat → Int32} (hm : isM g tpl b n) (hI : ∃ R, R ≤ 3 ∧ σ 1 = nI R) (x : Int32) : CT g l tpl b n yX11_regionAt cX11_regionAt 4 (some .int) rm_X11_regionAt [.ref (b + 0), .int x] (sv v σ) (pI (mRegion σ x) (sv v σ)) := by
  refine CT.introI [some (.ref (b + 0)), some (.int x), none, none] (own := RX11) (by decide +kernel) rfl rfl rfl rfl ?_
  intro p e s m args below meth c Q C hE
  refine r_iload_n C dX11_regionAt_0 rfl ?_
  refine r_bipush C dX11_regionAt_1 bp_60 ?_
  refine r_idiv C dX11_regionAt_3 (by decide) ?_
  refine r_bipush C dX11_regionAt_4 bp_24 ?_
  refine r_irem C dX11_regionAt_6 (by decide) ?_
  refine r_istore_n C dX11_regionAt_7 rfl rfl ?_
  obtain ⟨R0, hR0, eR⟩ := hI
  have nR : (σ 1).toNatClampNeg = R0 := by rw [eR]; exact nI_clamp (by omega)
  refine r_iconst C dX11_regionAt_8 ic_0 ?_
  refine r_istore_n C dX11_regionAt_9 rfl rfl ?_
  have loop_10 : ∀ (r : Nat) (i : Nat), (i + r = R0) → (mRegLp σ (fHour x) r i = mRegLp σ (fHour x) R0 0) → WM g p l e rm_X11_regionAt s m args below meth c Q tpl b n (sv v σ) 10 [some (.ref (b + 0)), some (.int x), some (.int (fHour x)), some (.int (nI i))] [] := by
    intro r
    induction r with
    | zero =>
      intro i hi hR
      refine r_iload_n C dX11_regionAt_10 rfl ?_
      refine r_aload_n C dX11_regionAt_11 rfl ?_
      refine gf_X11_7 C dX11_regionAt_12 hm.1 (hm.k (by decide)) ?_
      refine r_iconst C dX11_regionAt_15 ic_1 ?_
      refine r_sld C dX11_regionAt_16 hm (j := 1) kn_1 (by omega) ?_
      refine r_icmp_ge (tgt := 37) C dX11_regionAt_17 rfl (fun c_17 => ?_) (fun c_17 => ?_)
      · skip
        try simp (disch := omega) only [Nat.add_zero] at c_17
        refine r_iconst C dX11_regionAt_37 ic_m1 ?_
        exact hE _ _ _ _ dX11_regionAt_38 (by rw [mRegion, nR, ← hR]; simp [pI, mRegLp, c_17])
      · exact absurd c_17 (by rw [eR]; exact nI_nlt (by omega) (by omega))
    | succ r ih_10 =>
      intro i hi hR
      refine r_iload_n C dX11_regionAt_10 rfl ?_
      refine r_aload_n C dX11_regionAt_11 rfl ?_
      refine gf_X11_7 C dX11_regionAt_12 hm.1 (hm.k (by decide)) ?_
      refine r_iconst C dX11_regionAt_15 ic_1 ?_
      refine r_sld C dX11_regionAt_16 hm (j := 1) kn_1 (by omega) ?_
      refine r_icmp_ge (tgt := 37) C dX11_regionAt_17 rfl (fun c_17 => ?_) (fun c_17 => ?_)
      · exact absurd (by rw [eR]; exact nI_lt (by omega) (by omega)) c_17
      · skip
        try simp (disch := omega) only [Nat.add_zero] at c_17
        refine r_aload_n C dX11_regionAt_20 rfl ?_
        refine r_iload_n C dX11_regionAt_21 rfl ?_
        refine r_iload_n C dX11_regionAt_22 rfl ?_
        refine cvI_X11_47 C dX11_regionAt_23 (c_X11_covers hm _ _ i rfl (by omega)) hm.1 (hm.k (by decide)) ⟨rfl, rfl⟩ rfl rfl rfl ?_
        refine r_if_eq (tgt := 31) C dX11_regionAt_26 rfl (fun c_26 => ?_) (fun c_26 => ?_)
        · skip
          try simp (disch := omega) only [Nat.add_zero] at c_26
          refine r_iinc C dX11_regionAt_31 rfl (nI_inc _) rfl ?_
          refine r_goto (tgt := 10) C dX11_regionAt_34 rfl ?_
          exact ih_10 (i + 1) (by omega) (by rw [← hR]; simp [mRegLp, c_17, c_26])
        · skip
          try simp (disch := omega) only [Nat.add_zero] at c_26
          refine r_iload_n C dX11_regionAt_29 rfl ?_
          exact hE _ _ _ _ dX11_regionAt_30 (by rw [mRegion, nR, ← hR]; simp [pI, mRegLp, c_17, c_26])
  exact loop_10 R0 0 (by omega) rfl
set_option maxRecDepth 100000 in
set_option maxHeartbeats 4000000 in
theorem c_X11_personAt {g : mG} {l : Launch} {tpl : mT} {b n : Nat} {v : mV} {σ : Nat → Int32} (hm : isM g tpl b n) (hI : MI σ) (x y : Int32) (T : Nat) (hT : T ≤ 100000) (eT : x = nI T) (l0 : Nat) (hl : l0 ≤ 100000) (el : y = nI l0) : CT g l tpl b n yX11_personAt cX11_personAt 7 (some .int) rm_X11_personAt [.ref (b + 0), .int x, .int y] (sv v σ) (pI (mPerson σ x y) (sv v σ)) := by
  refine CT.introI [some (.ref (b + 0)), some (.int x), some (.int y), none, none, none, none] (own := RX11) (by decide +kernel) rfl rfl rfl rfl ?_
  intro p e s m args below meth c Q C hE
  refine r_aload_n C dX11_personAt_0 rfl ?_
  refine r_iload_n C dX11_personAt_1 rfl ?_
  refine cvI_X11_51 C dX11_personAt_2 (c_X11_regionAt hm (MI_R hI) _) hm.1 (hm.k (by decide)) ⟨rfl, rfl⟩ rfl rfl rfl ?_
  refine r_istore_n C dX11_personAt_5 rfl rfl ?_
  refine r_iload_n C dX11_personAt_6 rfl ?_
  refine r_if_ge (tgt := 12) C dX11_personAt_7 rfl (fun c_7 => ?_) (fun c_7 => ?_)
  · skip
    try simp (disch := omega) only [Nat.add_zero] at c_7
    obtain ⟨j, hj, ej, ⟨sh, h1, h2, esh⟩, mm, m1, m5, em⟩ := mRegion_pos hI c_7
    obtain ⟨O, hO, eO⟩ := hI.2.2.2.1
    have nO : (σ 15).toNatClampNeg = O := by rw [eO]; exact nI_clamp (by omega)
    have nj : (mRegion σ x).toNatClampNeg = j := by rw [ej]; exact nI_clamp (by omega)
    refine r_iconst C dX11_personAt_12 ic_m1 ?_
    refine r_istore C dX11_personAt_13 rfl rfl ?_
    refine r_iconst C dX11_personAt_15 ic_0 ?_
    refine r_istore C dX11_personAt_16 rfl rfl ?_
    have loop_18 : ∀ (r : Nat) (i : Nat) (f : Int32) (z : Option Value), (i + r = O) → (y = 0 → mStLp σ (mRegion σ x) x r i f = mStLp σ (mRegion σ x) x O 0 (-1)) → (¬ y = 0 → f = -1) → WM g p l e rm_X11_personAt s m args below meth c Q tpl b n (sv v σ) 18 [some (.ref (b + 0)), some (.int x), some (.int y), some (.int (mRegion σ x)), some (.int f), some (.int (nI i)), z] [] := by
      intro r
      induction r with
      | zero =>
        intro i f z hi hR hN
        refine r_iload C dX11_personAt_18 rfl ?_
        refine r_aload_n C dX11_personAt_20 rfl ?_
        refine gf_X11_7 C dX11_personAt_21 hm.1 (hm.k (by decide)) ?_
        refine r_bipush C dX11_personAt_24 bp_15 ?_
        refine r_sld C dX11_personAt_26 hm (j := 15) kn_15 (by omega) ?_
        refine r_icmp_ge (tgt := 89) C dX11_personAt_27 rfl (fun c_27 => ?_) (fun c_27 => ?_)
        · skip
          try simp (disch := omega) only [Nat.add_zero] at c_27
          have hf : (if y = 0 then mStLp σ (mRegion σ x) x O 0 (-1) else -1) = f := by
            by_cases hy : y = 0
            · rw [if_pos hy]; first | exact absurd hy c_31 | (rw [← hR hy, mStLp])
            · rw [if_neg hy, hN hy]
          refine r_iload_n C dX11_personAt_89 rfl ?_
          refine r_bipush C dX11_personAt_90 bp_60 ?_
          refine r_idiv C dX11_personAt_92 (by decide) ?_
          refine r_aload_n C dX11_personAt_93 rfl ?_
          refine r_iload_n C dX11_personAt_94 rfl ?_
          refine r_iconst C dX11_personAt_95 ic_2 ?_
          refine cvI_X11_40 C dX11_personAt_96 (c_X11_ofWhere hm _ _ j 2 ej kn_2 (by omega)) hm.1 (hm.k (by decide)) ⟨rfl, rfl⟩ rfl rfl rfl ?_
          refine r_idiv C dX11_personAt_99 (by rw [esh]; exact nI_ne0 h1 (by omega)) ?_
          refine r_iload_n C dX11_personAt_100 rfl ?_
          refine r_iadd C dX11_personAt_101 ?_
          refine r_aload_n C dX11_personAt_102 rfl ?_
          refine r_iload_n C dX11_personAt_103 rfl ?_
          refine r_iconst C dX11_personAt_104 ic_3 ?_
          refine cvI_X11_40 C dX11_personAt_105 (c_X11_ofWhere hm _ _ j 3 ej kn_3 (by omega)) hm.1 (hm.k (by decide)) ⟨rfl, rfl⟩ rfl rfl rfl ?_
          refine r_irem C dX11_personAt_108 (by rw [em]; exact nI_ne0 m1 (by omega)) ?_
          have ep : x / 60 / σ (56 + 9 * j + 2) + y - (x / 60 / σ (56 + 9 * j + 2) + y) / σ (56 + 9 * j + 3) * σ (56 + 9 * j + 3) = nI ((T / 60 / sh + l0) % mm) := by rw [esh, em]; exact mPlace_of hT eT hl el h1 h2 m1 m5
          have hpm : (T / 60 / sh + l0) % mm < 5 := Nat.lt_of_lt_of_le (Nat.mod_lt _ m1) m5
          refine r_istore C dX11_personAt_109 rfl rfl ?_
          refine r_iload C dX11_personAt_111 rfl ?_
          refine r_if_lt (tgt := 121) C dX11_personAt_113 rfl (fun c_113 => ?_) (fun c_113 => ?_)
          · skip
            try simp (disch := omega) only [Nat.add_zero] at c_113
            refine r_aload_n C dX11_personAt_121 rfl ?_
            refine r_iload_n C dX11_personAt_122 rfl ?_
            refine r_iconst C dX11_personAt_123 ic_4 ?_
            refine r_iload C dX11_personAt_124 rfl ?_
            refine r_iadd C dX11_personAt_126 ?_
            refine cvI_X11_40 C dX11_personAt_127 (c_X11_ofWhere hm _ _ j (4 + (T / 60 / sh + l0) % mm) ej (na_add kn_4 ep) (by omega)) hm.1 (hm.k (by decide)) ⟨rfl, rfl⟩ rfl rfl rfl ?_
            exact hE _ _ _ _ dX11_personAt_130 (And.intro (congrArg (fun z => some (Value.int z)) (by first | (rw [mPerson, if_neg c_7, nO, hf, if_neg c_113]; done) | (rw [mPerson, if_neg c_7, nO, hf, if_pos c_113, nj, mPlace, ep, nI_clamp (by omega)]; done))) rfl)
          · skip
            try simp (disch := omega) only [Nat.add_zero] at c_113
            refine r_iload C dX11_personAt_116 rfl ?_
            refine r_goto (tgt := 130) C dX11_personAt_118 rfl ?_
            exact hE _ _ _ _ dX11_personAt_130 (And.intro (congrArg (fun z => some (Value.int z)) (by first | (rw [mPerson, if_neg c_7, nO, hf, if_neg c_113]; done) | (rw [mPerson, if_neg c_7, nO, hf, if_pos c_113, nj, mPlace, ep, nI_clamp (by omega)]; done))) rfl)
        · exact absurd c_27 (by rw [eO]; exact nI_nlt (by omega) (by omega))
      | succ r ih_18 =>
        intro i f z hi hR hN
        refine r_iload C dX11_personAt_18 rfl ?_
        refine r_aload_n C dX11_personAt_20 rfl ?_
        refine gf_X11_7 C dX11_personAt_21 hm.1 (hm.k (by decide)) ?_
        refine r_bipush C dX11_personAt_24 bp_15 ?_
        refine r_sld C dX11_personAt_26 hm (j := 15) kn_15 (by omega) ?_
        refine r_icmp_ge (tgt := 89) C dX11_personAt_27 rfl (fun c_27 => ?_) (fun c_27 => ?_)
        · exact absurd (by rw [eO]; exact nI_lt (by omega) (by omega)) c_27
        · skip
          try simp (disch := omega) only [Nat.add_zero] at c_27
          refine r_iload_n C dX11_personAt_30 rfl ?_
          refine r_if_ne (tgt := 89) C dX11_personAt_31 rfl (fun c_31 => ?_) (fun c_31 => ?_)
          · skip
            try simp (disch := omega) only [Nat.add_zero] at c_31
            have hf : (if y = 0 then mStLp σ (mRegion σ x) x O 0 (-1) else -1) = f := by
              by_cases hy : y = 0
              · rw [if_pos hy]; first | exact absurd hy c_31 | (rw [← hR hy, mStLp])
              · rw [if_neg hy, hN hy]
            refine r_iload_n C dX11_personAt_89 rfl ?_
            refine r_bipush C dX11_personAt_90 bp_60 ?_
            refine r_idiv C dX11_personAt_92 (by decide) ?_
            refine r_aload_n C dX11_personAt_93 rfl ?_
            refine r_iload_n C dX11_personAt_94 rfl ?_
            refine r_iconst C dX11_personAt_95 ic_2 ?_
            refine cvI_X11_40 C dX11_personAt_96 (c_X11_ofWhere hm _ _ j 2 ej kn_2 (by omega)) hm.1 (hm.k (by decide)) ⟨rfl, rfl⟩ rfl rfl rfl ?_
            refine r_idiv C dX11_personAt_99 (by rw [esh]; exact nI_ne0 h1 (by omega)) ?_
            refine r_iload_n C dX11_personAt_100 rfl ?_
            refine r_iadd C dX11_personAt_101 ?_
            refine r_aload_n C dX11_personAt_102 rfl ?_
            refine r_iload_n C dX11_personAt_103 rfl ?_
            refine r_iconst C dX11_personAt_104 ic_3 ?_
            refine cvI_X11_40 C dX11_personAt_105 (c_X11_ofWhere hm _ _ j 3 ej kn_3 (by omega)) hm.1 (hm.k (by decide)) ⟨rfl, rfl⟩ rfl rfl rfl ?_
            refine r_irem C dX11_personAt_108 (by rw [em]; exact nI_ne0 m1 (by omega)) ?_
            have ep : x / 60 / σ (56 + 9 * j + 2) + y - (x / 60 / σ (56 + 9 * j + 2) + y) / σ (56 + 9 * j + 3) * σ (56 + 9 * j + 3) = nI ((T / 60 / sh + l0) % mm) := by rw [esh, em]; exact mPlace_of hT eT hl el h1 h2 m1 m5
            have hpm : (T / 60 / sh + l0) % mm < 5 := Nat.lt_of_lt_of_le (Nat.mod_lt _ m1) m5
            refine r_istore C dX11_personAt_109 rfl rfl ?_
            refine r_iload C dX11_personAt_111 rfl ?_
            refine r_if_lt (tgt := 121) C dX11_personAt_113 rfl (fun c_113 => ?_) (fun c_113 => ?_)
            · skip
              try simp (disch := omega) only [Nat.add_zero] at c_113
              refine r_aload_n C dX11_personAt_121 rfl ?_
              refine r_iload_n C dX11_personAt_122 rfl ?_
              refine r_iconst C dX11_personAt_123 ic_4 ?_
              refine r_iload C dX11_personAt_124 rfl ?_
              refine r_iadd C dX11_personAt_126 ?_
              refine cvI_X11_40 C dX11_personAt_127 (c_X11_ofWhere hm _ _ j (4 + (T / 60 / sh + l0) % mm) ej (na_add kn_4 ep) (by omega)) hm.1 (hm.k (by decide)) ⟨rfl, rfl⟩ rfl rfl rfl ?_
              exact hE _ _ _ _ dX11_personAt_130 (And.intro (congrArg (fun z => some (Value.int z)) (by first | (rw [mPerson, if_neg c_7, nO, hf, if_neg c_113]; done) | (rw [mPerson, if_neg c_7, nO, hf, if_pos c_113, nj, mPlace, ep, nI_clamp (by omega)]; done))) rfl)
            · skip
              try simp (disch := omega) only [Nat.add_zero] at c_113
              refine r_iload C dX11_personAt_116 rfl ?_
              refine r_goto (tgt := 130) C dX11_personAt_118 rfl ?_
              exact hE _ _ _ _ dX11_personAt_130 (And.intro (congrArg (fun z => some (Value.int z)) (by first | (rw [mPerson, if_neg c_7, nO, hf, if_neg c_113]; done) | (rw [mPerson, if_neg c_7, nO, hf, if_pos c_113, nj, mPlace, ep, nI_clamp (by omega)]; done))) rfl)
          · skip
            try simp (disch := omega) only [Nat.add_zero] at c_31
            refine r_bipush C dX11_personAt_34 bp_83 ?_
            refine r_iconst C dX11_personAt_36 ic_3 ?_
            refine r_iload C dX11_personAt_37 rfl ?_
            refine r_imul C dX11_personAt_39 ?_
            refine r_iadd C dX11_personAt_40 ?_
            refine r_istore C dX11_personAt_41 rfl rfl ?_
            refine r_aload_n C dX11_personAt_43 rfl ?_
            refine gf_X11_7 C dX11_personAt_44 hm.1 (hm.k (by decide)) ?_
            refine r_iload C dX11_personAt_47 rfl ?_
            refine r_sld C dX11_personAt_49 hm (j := (83 + (3 * i))) (na_add kn_83 (na_mul kn_3 rfl)) (by omega) ?_
            refine r_iload_n C dX11_personAt_50 rfl ?_
            refine r_icmp_ne (tgt := 79) C dX11_personAt_51 rfl (fun c_51 => ?_) (fun c_51 => ?_)
            · skip
              try simp (disch := omega) only [Nat.add_zero] at c_51
              refine r_iload C dX11_personAt_79 rfl ?_
              refine r_istore C dX11_personAt_81 rfl rfl ?_
              refine r_iinc C dX11_personAt_83 rfl (nI_inc _) rfl ?_
              refine r_goto (tgt := 18) C dX11_personAt_86 rfl ?_
              exact ih_18 (i + 1) _ _ (by omega) (fun hy => by rw [← hR hy]; simp [mStLp, c_27, c_31, c_51]) (fun hy => absurd c_31 hy)
            · skip
              try simp (disch := omega) only [Nat.add_zero] at c_51
              refine r_aload_n C dX11_personAt_54 rfl ?_
              refine gf_X11_7 C dX11_personAt_55 hm.1 (hm.k (by decide)) ?_
              refine r_iload C dX11_personAt_58 rfl ?_
              refine r_iconst C dX11_personAt_60 ic_2 ?_
              refine r_iadd C dX11_personAt_61 ?_
              refine r_sld C dX11_personAt_62 hm (j := ((83 + (3 * i)) + 2)) (na_add (na_add kn_83 (na_mul kn_3 rfl)) kn_2) (by omega) ?_
              refine r_iload_n C dX11_personAt_63 rfl ?_
              refine r_icmp_le (tgt := 79) C dX11_personAt_64 rfl (fun c_64 => ?_) (fun c_64 => ?_)
              · skip
                try simp (disch := omega) only [Nat.add_zero] at c_64
                refine r_iload C dX11_personAt_79 rfl ?_
                refine r_istore C dX11_personAt_81 rfl rfl ?_
                refine r_iinc C dX11_personAt_83 rfl (nI_inc _) rfl ?_
                refine r_goto (tgt := 18) C dX11_personAt_86 rfl ?_
                exact ih_18 (i + 1) _ _ (by omega) (fun hy => by rw [← hR hy]; simp [mStLp, c_27, c_31, c_51, c_64]) (fun hy => absurd c_31 hy)
              · skip
                try simp (disch := omega) only [Nat.add_zero] at c_64
                refine r_aload_n C dX11_personAt_67 rfl ?_
                refine gf_X11_7 C dX11_personAt_68 hm.1 (hm.k (by decide)) ?_
                refine r_iload C dX11_personAt_71 rfl ?_
                refine r_iconst C dX11_personAt_73 ic_1 ?_
                refine r_iadd C dX11_personAt_74 ?_
                refine r_sld C dX11_personAt_75 hm (j := ((83 + (3 * i)) + 1)) (na_add (na_add kn_83 (na_mul kn_3 rfl)) kn_1) (by omega) ?_
                refine r_goto (tgt := 81) C dX11_personAt_76 rfl ?_
                refine r_istore C dX11_personAt_81 rfl rfl ?_
                refine r_iinc C dX11_personAt_83 rfl (nI_inc _) rfl ?_
                refine r_goto (tgt := 18) C dX11_personAt_86 rfl ?_
                exact ih_18 (i + 1) _ _ (by omega) (fun hy => by rw [← hR hy]; simp [mStLp, c_27, c_31, c_51, c_64]) (fun hy => absurd c_31 hy)
    exact loop_18 O 0 (-1) none (by omega) (fun _ => rfl) (fun _ => rfl)
  · skip
    try simp (disch := omega) only [Nat.add_zero] at c_7
    refine r_iconst C dX11_personAt_10 ic_m1 ?_
    exact hE _ _ _ _ dX11_personAt_11 (by simp [pI, mPerson, c_7])
