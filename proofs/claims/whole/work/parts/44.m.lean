/-! ===== the reference: personOf, incidentOf, count ===== -/
set_option maxRecDepth 100000 in
set_option maxHeartbeats 4000000 in
theorem c_X11_personOf {g : mG} {l : Launch} {tpl : mT} {b n : Nat} {v : mV} {σ : Nat → Int32} (hm : isM g tpl b n) (hI : MI σ) (x y : Int32) : CT g l tpl b n yX11_personOf cX11_personOf 3 (some .int) rm_X11_personOf [.ref (b + 0), .int x, .int y] (sv v σ) (pI (mPersonOf σ x y) (sv v σ)) := by
  refine CT.introI [some (.ref (b + 0)), some (.int x), some (.int y)] (own := RX11) (by decide +kernel) rfl rfl rfl rfl ?_
  intro p e s m args below meth c Q C hE
  refine r_aload_n C dX11_personOf_0 rfl ?_
  refine r_iload_n C dX11_personOf_1 rfl ?_
  refine cvI_X11_80 C dX11_personOf_2 (c_X11_isPerson hm _) hm.1 (hm.k (by decide)) ⟨rfl, rfl⟩ rfl rfl rfl ?_
  refine r_if_eq (tgt := 18) C dX11_personOf_5 rfl (fun c_5 => ?_) (fun c_5 => ?_)
  · skip
    refine r_iconst C dX11_personOf_18 ic_m1 ?_
    exact hE _ _ _ _ dX11_personOf_19 (And.intro (congrArg (fun z => some (Value.int z)) (by first | exact absurd (s_1.symm.trans c_71) (by decide +kernel) | skip; unfold mPersonOf; repeat' split; all_goals first | contradiction | (with_reducible rfl) | (rw [nc]; done) | (simp [*]; done))) rfl)
  · skip
    obtain ⟨j, hj, rfl⟩ := mIn_P hI c_5
    have nc : (nI j).toNatClampNeg = j := nI_clamp (by omega)
    refine r_iload_n C dX11_personOf_8 rfl ?_
    refine r_iconst C dX11_personOf_9 ic_0 ?_
    refine r_bipush C dX11_personOf_10 bp_6 ?_
    refine cvI_X11_32 C dX11_personOf_12 (c_X11_in _ _ _) ⟨rfl, rfl⟩ rfl rfl rfl ?_
    refine r_if_ne (tgt := 20) C dX11_personOf_15 rfl (fun c_15 => ?_) (fun c_15 => ?_)
    · skip
      refine r_iload_n C dX11_personOf_20 rfl ?_
      by_cases s_0 : y = 0
      · skip
        refine r_tsw (y := 0) (off := 39) (tgt := 60) C dX11_personOf_21 s_0 (by decide +kernel) rfl ?_
        refine r_aload_n C dX11_personOf_60 rfl ?_
        refine r_iload_n C dX11_personOf_61 rfl ?_
        refine r_iconst C dX11_personOf_62 ic_3 ?_
        refine cvI_X11_54 C dX11_personOf_63 (c_X11_ofWho hm _ _ j 3 rfl kn_3 (by omega)) hm.1 (hm.k (by decide)) ⟨rfl, rfl⟩ rfl rfl rfl ?_
        exact hE _ _ _ _ dX11_personOf_66 (And.intro (congrArg (fun z => some (Value.int z)) (by first | exact absurd (s_1.symm.trans c_71) (by decide +kernel) | skip; unfold mPersonOf; repeat' split; all_goals first | contradiction | (with_reducible rfl) | (rw [nc]; done) | (simp [*]; done))) rfl)
      by_cases s_1 : y = 1
      · skip
        refine r_tsw (y := 1) (off := 46) (tgt := 67) C dX11_personOf_21 s_1 (by decide +kernel) rfl ?_
        refine r_aload_n C dX11_personOf_67 rfl ?_
        refine r_iload_n C dX11_personOf_68 rfl ?_
        refine r_iload_n C dX11_personOf_69 rfl ?_
        refine r_iconst C dX11_personOf_70 ic_2 ?_
        refine r_icmp_ne (tgt := 78) C dX11_personOf_71 rfl (fun c_71 => ?_) (fun c_71 => ?_)
        · skip
          refine r_iconst C dX11_personOf_78 ic_0 ?_
          refine cvI_X11_151 C dX11_personOf_79 (c_X11_ownedBy hm _ _) hm.1 (hm.k (by decide)) ⟨rfl, rfl⟩ rfl rfl rfl ?_
          exact hE _ _ _ _ dX11_personOf_82 (And.intro (congrArg (fun z => some (Value.int z)) (by first | exact absurd (s_1.symm.trans c_71) (by decide +kernel) | skip; unfold mPersonOf; repeat' split; all_goals first | contradiction | (with_reducible rfl) | (rw [nc]; done) | (simp [*]; done))) rfl)
        · skip
          refine r_iconst C dX11_personOf_74 ic_1 ?_
          refine r_goto (tgt := 79) C dX11_personOf_75 rfl ?_
          refine cvI_X11_151 C dX11_personOf_79 (c_X11_ownedBy hm _ _) hm.1 (hm.k (by decide)) ⟨rfl, rfl⟩ rfl rfl rfl ?_
          exact hE _ _ _ _ dX11_personOf_82 (And.intro (congrArg (fun z => some (Value.int z)) (by first | exact absurd (s_1.symm.trans c_71) (by decide +kernel) | skip; unfold mPersonOf; repeat' split; all_goals first | contradiction | (with_reducible rfl) | (rw [nc]; done) | (simp [*]; done))) rfl)
      by_cases s_2 : y = 2
      · skip
        refine r_tsw (y := 2) (off := 46) (tgt := 67) C dX11_personOf_21 s_2 (by decide +kernel) rfl ?_
        refine r_aload_n C dX11_personOf_67 rfl ?_
        refine r_iload_n C dX11_personOf_68 rfl ?_
        refine r_iload_n C dX11_personOf_69 rfl ?_
        refine r_iconst C dX11_personOf_70 ic_2 ?_
        refine r_icmp_ne (tgt := 78) C dX11_personOf_71 rfl (fun c_71 => ?_) (fun c_71 => ?_)
        · skip
          refine r_iconst C dX11_personOf_78 ic_0 ?_
          refine cvI_X11_151 C dX11_personOf_79 (c_X11_ownedBy hm _ _) hm.1 (hm.k (by decide)) ⟨rfl, rfl⟩ rfl rfl rfl ?_
          exact hE _ _ _ _ dX11_personOf_82 (And.intro (congrArg (fun z => some (Value.int z)) (by first | exact absurd (s_1.symm.trans c_71) (by decide +kernel) | skip; unfold mPersonOf; repeat' split; all_goals first | contradiction | (with_reducible rfl) | (rw [nc]; done) | (simp [*]; done))) rfl)
        · skip
          refine r_iconst C dX11_personOf_74 ic_1 ?_
          refine r_goto (tgt := 79) C dX11_personOf_75 rfl ?_
          refine cvI_X11_151 C dX11_personOf_79 (c_X11_ownedBy hm _ _) hm.1 (hm.k (by decide)) ⟨rfl, rfl⟩ rfl rfl rfl ?_
          exact hE _ _ _ _ dX11_personOf_82 (And.intro (congrArg (fun z => some (Value.int z)) (by first | exact absurd (s_1.symm.trans c_71) (by decide +kernel) | skip; unfold mPersonOf; repeat' split; all_goals first | contradiction | (with_reducible rfl) | (rw [nc]; done) | (simp [*]; done))) rfl)
      by_cases s_3 : y = 3
      · skip
        refine r_tsw (y := 3) (off := 62) (tgt := 83) C dX11_personOf_21 s_3 (by decide +kernel) rfl ?_
        refine r_aload_n C dX11_personOf_83 rfl ?_
        refine r_iload_n C dX11_personOf_84 rfl ?_
        refine r_iconst C dX11_personOf_85 ic_4 ?_
        refine cvI_X11_54 C dX11_personOf_86 (c_X11_ofWho hm _ _ j 4 rfl kn_4 (by omega)) hm.1 (hm.k (by decide)) ⟨rfl, rfl⟩ rfl rfl rfl ?_
        exact hE _ _ _ _ dX11_personOf_89 (And.intro (congrArg (fun z => some (Value.int z)) (by first | exact absurd (s_1.symm.trans c_71) (by decide +kernel) | skip; unfold mPersonOf; repeat' split; all_goals first | contradiction | (with_reducible rfl) | (rw [nc]; done) | (simp [*]; done))) rfl)
      by_cases s_4 : y = 4
      · skip
        refine r_tsw (y := 4) (off := 69) (tgt := 90) C dX11_personOf_21 s_4 (by decide +kernel) rfl ?_
        refine r_aload_n C dX11_personOf_90 rfl ?_
        refine r_iload_n C dX11_personOf_91 rfl ?_
        refine cvI_X11_155 C dX11_personOf_92 (c_X11_rotasOf hm hI _) hm.1 (hm.k (by decide)) ⟨rfl, rfl⟩ rfl rfl rfl ?_
        exact hE _ _ _ _ dX11_personOf_95 (And.intro (congrArg (fun z => some (Value.int z)) (by first | exact absurd (s_1.symm.trans c_71) (by decide +kernel) | skip; unfold mPersonOf; repeat' split; all_goals first | contradiction | (with_reducible rfl) | (rw [nc]; done) | (simp [*]; done))) rfl)
      by_cases s_5 : y = 5
      · skip
        refine r_tsw (y := 5) (off := 75) (tgt := 96) C dX11_personOf_21 s_5 (by decide +kernel) rfl ?_
        refine r_aload_n C dX11_personOf_96 rfl ?_
        refine r_iload_n C dX11_personOf_97 rfl ?_
        refine r_aload_n C dX11_personOf_98 rfl ?_
        refine gf_X11_7 C dX11_personOf_99 hm.1 (hm.k (by decide)) ?_
        refine r_iconst C dX11_personOf_102 ic_2 ?_
        refine r_sld C dX11_personOf_103 hm (j := 2) kn_2 (by omega) ?_
        refine cvI_X11_60 C dX11_personOf_104 (c_X11_isQuiet hm _ _ j rfl (by omega)) hm.1 (hm.k (by decide)) ⟨rfl, rfl⟩ rfl rfl rfl ?_
        refine r_if_eq (tgt := 114) C dX11_personOf_107 rfl (fun c_107 => ?_) (fun c_107 => ?_)
        · skip
          refine r_iconst C dX11_personOf_114 ic_0 ?_
          exact hE _ _ _ _ dX11_personOf_115 (And.intro (congrArg (fun z => some (Value.int z)) (by first | exact absurd (s_1.symm.trans c_71) (by decide +kernel) | skip; unfold mPersonOf; repeat' split; all_goals first | contradiction | (with_reducible rfl) | (rw [nc]; done) | (simp [*]; done))) rfl)
        · skip
          refine r_iconst C dX11_personOf_110 ic_1 ?_
          refine r_goto (tgt := 115) C dX11_personOf_111 rfl ?_
          exact hE _ _ _ _ dX11_personOf_115 (And.intro (congrArg (fun z => some (Value.int z)) (by first | exact absurd (s_1.symm.trans c_71) (by decide +kernel) | skip; unfold mPersonOf; repeat' split; all_goals first | contradiction | (with_reducible rfl) | (rw [nc]; done) | (simp [*]; done))) rfl)
      refine r_tswd (tgt := 116) (lo := 0) (cnt := 6) C dX11_personOf_21 (fun j hj => match j, hj with | 0, _ => s_0 | 1, _ => s_1 | 2, _ => s_2 | 3, _ => s_3 | 4, _ => s_4 | 5, _ => s_5 | (j + 6), h => absurd h (by omega)) rfl rfl ?_
      refine r_aload_n C dX11_personOf_116 rfl ?_
      refine r_iload_n C dX11_personOf_117 rfl ?_
      refine r_iconst C dX11_personOf_118 ic_2 ?_
      refine cvI_X11_54 C dX11_personOf_119 (c_X11_ofWho hm _ _ j 2 rfl kn_2 (by omega)) hm.1 (hm.k (by decide)) ⟨rfl, rfl⟩ rfl rfl rfl ?_
      exact hE _ _ _ _ dX11_personOf_122 (And.intro (congrArg (fun z => some (Value.int z)) (by first | exact absurd (s_1.symm.trans c_71) (by decide +kernel) | skip; unfold mPersonOf; repeat' split; all_goals first | contradiction | (with_reducible rfl) | (rw [nc]; done) | (simp [*]; done))) rfl)
    · skip
      refine r_iconst C dX11_personOf_18 ic_m1 ?_
      exact hE _ _ _ _ dX11_personOf_19 (And.intro (congrArg (fun z => some (Value.int z)) (by first | exact absurd (s_1.symm.trans c_71) (by decide +kernel) | skip; unfold mPersonOf; repeat' split; all_goals first | contradiction | (with_reducible rfl) | (rw [nc]; done) | (simp [*]; done))) rfl)
