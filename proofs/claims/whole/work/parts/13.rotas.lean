set_option maxRecDepth 100000 in
set_option maxHeartbeats 4000000 in
theorem c_X5_dropEndedStandIns {g : mG} {l : Launch} {tpl : mT} {b n : Nat} {v : mV} (h : Nat) (t : isT g tpl b n h) (x : Int32) : CT g l tpl b n yX5_dropEndedStandIns cX5_dropEndedStandIns 4 none rm_X5_dropEndedStandIns [.ref (b + (h + 1)), .int x] v (pV (rsDrop v h x)) := by
  refine CT.introV [some (.ref (b + (h + 1))), some (.int x), none, none] (own := RX5) (by decide +kernel) rfl rfl rfl rfl ?_
  intro p e s m args below meth c Q C hE
  refine r_iconst C dX5_dropEndedStandIns_0 ic_0 ?_
  refine r_istore_n C dX5_dropEndedStandIns_1 rfl rfl ?_
  refine r_iconst C dX5_dropEndedStandIns_2 ic_0 ?_
  refine r_istore_n C dX5_dropEndedStandIns_3 rfl rfl ?_
  have loop_4 : ∀ (r : Nat) (i kp : Nat) (w : mV), (i + r = 6) → (kp ≤ i) → (rsDropLp h x r i kp w = rsDropLp h x 6 0 0 v) → WM g p l e rm_X5_dropEndedStandIns s m args below meth c Q tpl b n w 4 [some (.ref (b + (h + 1))), some (.int x), some (.int (nI kp)), some (.int (nI i))] [] := by
    intro r
    induction r with
    | zero =>
      intro i kp w hi hkp hR
      refine r_iload_n C dX5_dropEndedStandIns_4 rfl ?_
      refine r_aload_n C dX5_dropEndedStandIns_5 rfl ?_
      refine gf_X5_49 C dX5_dropEndedStandIns_6 t.1 (t.k (by decide)) ?_
      refine r_icmp_ge (tgt := 58) C dX5_dropEndedStandIns_9 rfl (fun c_9 => ?_) (fun c_9 => ?_)
      · skip
        refine r_aload_n C dX5_dropEndedStandIns_58 rfl ?_
        refine r_iload_n C dX5_dropEndedStandIns_59 rfl ?_
        refine pf_X5_49 C dX5_dropEndedStandIns_60 t.1 (t.k (by decide)) ?_
        exact hE _ _ _ dX5_dropEndedStandIns_63 (And.intro rfl (by rw [rsDrop, ← hR]; simp [rsDropLp, c_9]))
      · skip
        refine r_iload_n C dX5_dropEndedStandIns_12 rfl ?_
        refine r_aload_n C dX5_dropEndedStandIns_13 rfl ?_
        refine gf_X5_25 C dX5_dropEndedStandIns_14 t.1 (t.k (by decide)) ?_
        refine r_alen C dX5_dropEndedStandIns_17 t.2.2.2.1 rfl (t.k (by decide)) kn_6.symm ?_
        refine r_icmp_ge (tgt := 58) C dX5_dropEndedStandIns_18 rfl (fun c_18 => ?_) (fun c_18 => ?_)
        · skip
          refine r_aload_n C dX5_dropEndedStandIns_58 rfl ?_
          refine r_iload_n C dX5_dropEndedStandIns_59 rfl ?_
          refine pf_X5_49 C dX5_dropEndedStandIns_60 t.1 (t.k (by decide)) ?_
          exact hE _ _ _ dX5_dropEndedStandIns_63 (And.intro rfl (by rw [rsDrop, ← hR]; simp [rsDropLp, c_9, c_18]))
        · exact absurd c_18 (nI_nlt (a := i) (b := 6) (by omega) (by omega))
    | succ r ih_4 =>
      intro i kp w hi hkp hR
      refine r_iload_n C dX5_dropEndedStandIns_4 rfl ?_
      refine r_aload_n C dX5_dropEndedStandIns_5 rfl ?_
      refine gf_X5_49 C dX5_dropEndedStandIns_6 t.1 (t.k (by decide)) ?_
      refine r_icmp_ge (tgt := 58) C dX5_dropEndedStandIns_9 rfl (fun c_9 => ?_) (fun c_9 => ?_)
      · skip
        refine r_aload_n C dX5_dropEndedStandIns_58 rfl ?_
        refine r_iload_n C dX5_dropEndedStandIns_59 rfl ?_
        refine pf_X5_49 C dX5_dropEndedStandIns_60 t.1 (t.k (by decide)) ?_
        exact hE _ _ _ dX5_dropEndedStandIns_63 (And.intro rfl (by rw [rsDrop, ← hR]; simp [rsDropLp, c_9]))
      · skip
        refine r_iload_n C dX5_dropEndedStandIns_12 rfl ?_
        refine r_aload_n C dX5_dropEndedStandIns_13 rfl ?_
        refine gf_X5_25 C dX5_dropEndedStandIns_14 t.1 (t.k (by decide)) ?_
        refine r_alen C dX5_dropEndedStandIns_17 t.2.2.2.1 rfl (t.k (by decide)) kn_6.symm ?_
        refine r_icmp_ge (tgt := 58) C dX5_dropEndedStandIns_18 rfl (fun c_18 => ?_) (fun c_18 => ?_)
        · exact absurd (nI_lt (a := i) (b := 6) (by omega) (by omega)) c_18
        · skip
          refine r_aload_n C dX5_dropEndedStandIns_21 rfl ?_
          refine gf_X5_25 C dX5_dropEndedStandIns_22 t.1 (t.k (by decide)) ?_
          refine r_iload_n C dX5_dropEndedStandIns_25 rfl ?_
          refine r_aald (t0 := 6) C dX5_dropEndedStandIns_26 t.2.2.2.1 rfl (t.k (by decide)) (j := i) rfl (by omega) rfl rfl ?_
          refine r_iload_n C dX5_dropEndedStandIns_27 rfl ?_
          refine cvI_X5_97 C dX5_dropEndedStandIns_28 (c_X8_isInForce _ (t.2.2.2.2.2.2.1 i (by omega)) (t.k (by omega)) _) (t.2.2.2.2.2.2.1 i (by omega)) (t.k (by omega)) ⟨rfl, rfl⟩ rfl rfl rfl ?_
          refine r_if_eq (tgt := 52) C dX5_dropEndedStandIns_31 rfl (fun c_31 => ?_) (fun c_31 => ?_)
          · skip
            rw [ite0] at c_31
            refine r_iinc C dX5_dropEndedStandIns_52 rfl (nI_inc _) rfl ?_
            refine r_goto (tgt := 4) C dX5_dropEndedStandIns_55 rfl ?_
            exact ih_4 (i + 1) _ _ (by omega) (by omega) (by rw [← hR]; simp [rsDropLp, c_9, c_18, c_31])
          · skip
            rw [ite0, Classical.not_not] at c_31
            refine r_aload_n C dX5_dropEndedStandIns_34 rfl ?_
            refine gf_X5_25 C dX5_dropEndedStandIns_35 t.1 (t.k (by decide)) ?_
            refine r_iload_n C dX5_dropEndedStandIns_38 rfl ?_
            refine r_aald (t0 := 6) C dX5_dropEndedStandIns_39 t.2.2.2.1 rfl (t.k (by decide)) (j := kp) rfl (by omega) rfl rfl ?_
            refine r_aload_n C dX5_dropEndedStandIns_40 rfl ?_
            refine gf_X5_25 C dX5_dropEndedStandIns_41 t.1 (t.k (by decide)) ?_
            refine r_iload_n C dX5_dropEndedStandIns_44 rfl ?_
            refine r_aald (t0 := 6) C dX5_dropEndedStandIns_45 t.2.2.2.1 rfl (t.k (by decide)) (j := i) rfl (by omega) rfl rfl ?_
            refine cvV_X5_39 C dX5_dropEndedStandIns_46 (c_X8_copyFrom _ _ (t.2.2.2.2.2.2.1 kp (by omega)) (t.k (by omega)) (t.2.2.2.2.2.2.1 i (by omega)) (t.k (by omega))) (t.2.2.2.2.2.2.1 kp (by omega)) (t.k (by omega)) ⟨rfl, rfl⟩ rfl rfl rfl ?_
            refine r_iinc C dX5_dropEndedStandIns_49 rfl (nI_inc _) rfl ?_
            refine r_iinc C dX5_dropEndedStandIns_52 rfl (nI_inc _) rfl ?_
            refine r_goto (tgt := 4) C dX5_dropEndedStandIns_55 rfl ?_
            exact ih_4 (i + 1) _ _ (by omega) (by omega) (by rw [← hR]; simp [rsDropLp, c_9, c_18, c_31])
  exact loop_4 6 0 0 v rfl (Nat.le_refl 0) rfl
set_option maxRecDepth 100000 in
set_option maxHeartbeats 4000000 in
theorem c_X5_addStandIn {g : mG} {l : Launch} {tpl : mT} {b n : Nat} {v : mV} (h : Nat) (t : isT g tpl b n h) (x y z e0 : Int32) : CT g l tpl b n yX5_addStandIn cX5_addStandIn 6 (some .int) rm_X5_addStandIn [.ref (b + (h + 1)), .int x, .int y, .int z, .int e0] v (pI (rsAddStand v h x y z e0).1 (rsAddStand v h x y z e0).2) := by
  refine CT.introI [some (.ref (b + (h + 1))), some (.int x), some (.int y), some (.int z), some (.int e0), none] (own := RX5) (by decide +kernel) rfl rfl rfl rfl ?_
  intro p e s m args below meth c Q C hE
  refine r_aload_n C dX5_addStandIn_0 rfl ?_
  refine r_iload_n C dX5_addStandIn_1 rfl ?_
  refine cvV_X5_100 C dX5_addStandIn_2 (c_X5_dropEndedStandIns h t _) t.1 (t.k (by decide)) ⟨rfl, rfl⟩ rfl rfl rfl ?_
  generalize ew : rsDrop v h z = w
  refine r_aload_n C dX5_addStandIn_5 rfl ?_
  refine gf_X5_49 C dX5_addStandIn_6 t.1 (t.k (by decide)) ?_
  refine r_istore C dX5_addStandIn_9 rfl rfl ?_
  refine r_iload C dX5_addStandIn_11 rfl ?_
  refine r_if_lt (tgt := 26) C dX5_addStandIn_13 rfl (fun c_13 => ?_) (fun c_13 => ?_)
  · skip
    refine r_bipush C dX5_addStandIn_26 bp_m3 ?_
    exact hE _ _ _ _ dX5_addStandIn_28 (by first | with_reducible exact ⟨rfl, rfl⟩ | (simp (disch := omega) [pI, pV, rsAddStand, ew, c_13, u2_o, u2_r, upd_o, upd_r]))
  · skip
    refine r_iload C dX5_addStandIn_16 rfl ?_
    refine r_aload_n C dX5_addStandIn_18 rfl ?_
    refine gf_X5_25 C dX5_addStandIn_19 t.1 (t.k (by decide)) ?_
    refine r_alen C dX5_addStandIn_22 t.2.2.2.1 rfl (t.k (by decide)) kn_6.symm ?_
    refine r_icmp_lt (tgt := 29) C dX5_addStandIn_23 rfl (fun c_23 => ?_) (fun c_23 => ?_)
    · skip
      obtain ⟨j, hj, ej⟩ := na_of kn_6 (by decide) c_13 c_23
      have nc : (w (h + 1) 5).toNatClampNeg = j := by rw [ej]; exact nI_clamp (by omega)
      refine r_aload_n C dX5_addStandIn_29 rfl ?_
      refine gf_X5_25 C dX5_addStandIn_30 t.1 (t.k (by decide)) ?_
      refine r_iload C dX5_addStandIn_33 rfl ?_
      refine r_aald (t0 := 6) C dX5_addStandIn_35 t.2.2.2.1 rfl (t.k (by decide)) (j := j) ej hj rfl rfl ?_
      refine r_iload_n C dX5_addStandIn_36 rfl ?_
      refine pf_X5_104 C dX5_addStandIn_37 (t.2.2.2.2.2.2.1 j hj) (t.k (by omega)) ?_
      refine r_aload_n C dX5_addStandIn_40 rfl ?_
      refine gf_X5_25 C dX5_addStandIn_41 t.1 (t.k (by decide)) ?_
      refine r_iload C dX5_addStandIn_44 rfl ?_
      refine r_aald (t0 := 6) C dX5_addStandIn_46 t.2.2.2.1 rfl (t.k (by decide)) (j := j) ej hj rfl rfl ?_
      refine r_iload_n C dX5_addStandIn_47 rfl ?_
      refine pf_X5_107 C dX5_addStandIn_48 (t.2.2.2.2.2.2.1 j hj) (t.k (by omega)) ?_
      refine r_aload_n C dX5_addStandIn_51 rfl ?_
      refine gf_X5_25 C dX5_addStandIn_52 t.1 (t.k (by decide)) ?_
      refine r_iload C dX5_addStandIn_55 rfl ?_
      refine r_aald (t0 := 6) C dX5_addStandIn_57 t.2.2.2.1 rfl (t.k (by decide)) (j := j) ej hj rfl rfl ?_
      refine r_iload C dX5_addStandIn_58 rfl ?_
      refine pf_X5_110 C dX5_addStandIn_60 (t.2.2.2.2.2.2.1 j hj) (t.k (by omega)) ?_
      refine r_aload_n C dX5_addStandIn_63 rfl ?_
      refine r_dup C dX5_addStandIn_64 rfl ?_
      refine gf_X5_49 C dX5_addStandIn_65 t.1 (t.k (by decide)) ?_
      refine r_iconst C dX5_addStandIn_68 ic_1 ?_
      refine r_iadd C dX5_addStandIn_69 ?_
      refine pf_X5_49 C dX5_addStandIn_70 t.1 (t.k (by decide)) ?_
      refine r_aload_n C dX5_addStandIn_73 rfl ?_
      refine gf_X5_49 C dX5_addStandIn_74 t.1 (t.k (by decide)) ?_
      exact hE _ _ _ _ dX5_addStandIn_77 (by first | with_reducible exact ⟨rfl, rfl⟩ | (simp (disch := omega) [pI, pV, rsAddStand, ew, c_13, c_23, nc, u2_o, u2_r, upd_o, upd_r]))
    · skip
      refine r_bipush C dX5_addStandIn_26 bp_m3 ?_
      exact hE _ _ _ _ dX5_addStandIn_28 (by first | with_reducible exact ⟨rfl, rfl⟩ | (simp (disch := omega) [pI, pV, rsAddStand, ew, c_13, c_23, u2_o, u2_r, upd_o, upd_r]))
set_option maxRecDepth 100000 in
set_option maxHeartbeats 4000000 in
theorem c_X5_personAt {g : mG} {l : Launch} {tpl : mT} {b n : Nat} {v : mV} (h : Nat) (t : isT g tpl b n h) (q : Nat) (hq : v (h + 1) 5 = nI q) (hq6 : q ≤ 6) (x y z : Int32) : CT g l tpl b n yX5_personAt cX5_personAt 5 (some .int) rm_X5_personAt [.ref (b + (h + 1)), .int x, .int y, .int z] v (pI (rsPersonAt v h x y z) v) := by
  refine CT.introI [some (.ref (b + (h + 1))), some (.int x), some (.int y), some (.int z), none] (own := RX5) (by decide +kernel) rfl rfl rfl rfl ?_
  intro p e s m args below meth c Q C hE
  refine r_iload_n C dX5_personAt_0 rfl ?_
  refine r_if_lt (tgt := 21) C dX5_personAt_1 rfl (fun c_1 => ?_) (fun c_1 => ?_)
  · skip
    refine r_iconst C dX5_personAt_21 ic_m1 ?_
    exact hE _ _ _ _ dX5_personAt_22 (And.intro (congrArg (fun z => some (Value.int z)) (by first | (rw [hres, ← hR]; simp [rsStandLp, rsPick, c_1]; done) | (simp [rsPersonAt, rsPick, c_1]; done))) rfl)
  · skip
    refine r_iload_n C dX5_personAt_4 rfl ?_
    refine r_aload_n C dX5_personAt_5 rfl ?_
    refine gf_X5_19 C dX5_personAt_6 t.1 (t.k (by decide)) ?_
    refine r_alen C dX5_personAt_9 t.2.2.1 rfl (t.k (by decide)) kn_3.symm ?_
    refine r_icmp_ge (tgt := 21) C dX5_personAt_10 rfl (fun c_10 => ?_) (fun c_10 => ?_)
    · skip
      refine r_iconst C dX5_personAt_21 ic_m1 ?_
      exact hE _ _ _ _ dX5_personAt_22 (And.intro (congrArg (fun z => some (Value.int z)) (by first | (rw [hres, ← hR]; simp [rsStandLp, rsPick, c_1, c_10]; done) | (simp [rsPersonAt, rsPick, c_1, c_10]; done))) rfl)
    · skip
      refine r_iload_n C dX5_personAt_13 rfl ?_
      refine r_if_lt (tgt := 21) C dX5_personAt_14 rfl (fun c_14 => ?_) (fun c_14 => ?_)
      · skip
        refine r_iconst C dX5_personAt_21 ic_m1 ?_
        exact hE _ _ _ _ dX5_personAt_22 (And.intro (congrArg (fun z => some (Value.int z)) (by first | (rw [hres, ← hR]; simp [rsStandLp, rsPick, c_1, c_10, c_14]; done) | (simp [rsPersonAt, rsPick, c_1, c_10, c_14]; done))) rfl)
      · skip
        refine r_iload_n C dX5_personAt_17 rfl ?_
        refine r_if_ge (tgt := 23) C dX5_personAt_18 rfl (fun c_18 => ?_) (fun c_18 => ?_)
        · skip
          obtain ⟨j, hj, rfl⟩ := na_of kn_3 (by decide) c_1 c_10
          have nc : (nI j).toNatClampNeg = j := nI_clamp (by omega)
          have nq : (v (h + 1) 5).toNatClampNeg = q := by rw [hq]; exact nI_clamp (by omega)
          refine r_iload_n C dX5_personAt_23 rfl ?_
          refine r_if_ne (tgt := 93) C dX5_personAt_24 rfl (fun c_24 => ?_) (fun c_24 => ?_)
          · skip
            refine r_aload_n C dX5_personAt_93 rfl ?_
            refine gf_X5_19 C dX5_personAt_94 t.1 (t.k (by decide)) ?_
            refine r_iload_n C dX5_personAt_97 rfl ?_
            refine r_aald (t0 := 5) C dX5_personAt_98 t.2.2.1 rfl (t.k (by decide)) (j := j) rfl hj rfl rfl ?_
            refine r_astore C dX5_personAt_99 rfl rfl ?_
            refine r_aload C dX5_personAt_101 rfl ?_
            refine gf_X5_125 C dX5_personAt_103 (t.2.2.2.2.2.1 j hj).1 (t.2.2.2.2.2.1 j hj).k ?_
            refine r_iconst C dX5_personAt_106 ic_1 ?_
            refine r_icmp_lt (tgt := 119) C dX5_personAt_107 rfl (fun c_107 => ?_) (fun c_107 => ?_)
            · skip
              refine r_iconst C dX5_personAt_119 ic_m1 ?_
              exact hE _ _ _ _ dX5_personAt_120 (And.intro (congrArg (fun z => some (Value.int z)) (by first | (rw [hres, ← hR]; simp [rsStandLp, rsPick, c_1, c_10, c_14, c_18, nc, nq, c_24, c_107]; done) | (simp [rsPersonAt, rsPick, c_1, c_10, c_14, c_18, nc, nq, c_24, c_107]; done))) rfl)
            · skip
              refine r_aload C dX5_personAt_110 rfl ?_
              refine gf_X5_128 C dX5_personAt_112 (t.2.2.2.2.2.1 j hj).1 (t.2.2.2.2.2.1 j hj).k ?_
              refine r_iconst C dX5_personAt_115 ic_1 ?_
              refine r_icmp_ge (tgt := 121) C dX5_personAt_116 rfl (fun c_116 => ?_) (fun c_116 => ?_)
              · skip
                refine r_aload C dX5_personAt_121 rfl ?_
                refine r_iload_n C dX5_personAt_123 rfl ?_
                refine r_bipush C dX5_personAt_124 bp_60 ?_
                refine r_idiv C dX5_personAt_126 (by decide) ?_
                refine r_aload C dX5_personAt_127 rfl ?_
                refine gf_X5_125 C dX5_personAt_129 (t.2.2.2.2.2.1 j hj).1 (t.2.2.2.2.2.1 j hj).k ?_
                refine r_idiv C dX5_personAt_132 (fun z0 => absurd (show v (h + (21 + 3 * j)) 2 < 1 by rw [z0]; decide) c_107) ?_
                refine r_iload_n C dX5_personAt_133 rfl ?_
                refine r_iadd C dX5_personAt_134 ?_
                refine r_aload C dX5_personAt_135 rfl ?_
                refine gf_X5_128 C dX5_personAt_137 (t.2.2.2.2.2.1 j hj).1 (t.2.2.2.2.2.1 j hj).k ?_
                refine r_irem C dX5_personAt_140 (fun z0 => absurd (show v (h + (21 + 3 * j)) 3 < 1 by rw [z0]; decide) c_116) ?_
                refine cvI_X5_131 C dX5_personAt_141 (c_X4_memberAt _ (t.2.2.2.2.2.1 j hj) _) (t.2.2.2.2.2.1 j hj).1 (t.2.2.2.2.2.1 j hj).k ⟨rfl, rfl⟩ rfl rfl rfl ?_
                exact hE _ _ _ _ dX5_personAt_144 (And.intro (congrArg (fun z => some (Value.int z)) (by first | (rw [hres, ← hR]; simp [rsStandLp, rsPick, c_1, c_10, c_14, c_18, nc, nq, c_24, c_107, c_116]; done) | (simp [rsPersonAt, rsPick, c_1, c_10, c_14, c_18, nc, nq, c_24, c_107, c_116]; done))) rfl)
              · skip
                refine r_iconst C dX5_personAt_119 ic_m1 ?_
                exact hE _ _ _ _ dX5_personAt_120 (And.intro (congrArg (fun z => some (Value.int z)) (by first | (rw [hres, ← hR]; simp [rsStandLp, rsPick, c_1, c_10, c_14, c_18, nc, nq, c_24, c_107, c_116]; done) | (simp [rsPersonAt, rsPick, c_1, c_10, c_14, c_18, nc, nq, c_24, c_107, c_116]; done))) rfl)
          · skip
            have hres : rsPersonAt v h (nI j) y z = rsStandLp v h (nI j) y (rsPick v (h + (21 + 3 * j)) y z) q := by simp [rsPersonAt, c_1, c_10, c_14, c_18, nc, nq, c_24]
            refine r_aload_n C dX5_personAt_27 rfl ?_
            refine gf_X5_49 C dX5_personAt_28 t.1 (t.k (by decide)) ?_
            refine r_aload_n C dX5_personAt_31 rfl ?_
            refine gf_X5_25 C dX5_personAt_32 t.1 (t.k (by decide)) ?_
            refine r_alen C dX5_personAt_35 t.2.2.2.1 rfl (t.k (by decide)) kn_6.symm ?_
            refine r_min C dX5_personAt_36 kw_23_2 rfl rfl ?_
            rw [show (if (6 : Int32) < v (h + 1) 5 then (6 : Int32) else v (h + 1) 5) = nI q by rw [hq, if_neg]; exact (fun z => absurd ((na_lt kn_6 rfl (by omega) (by omega)).mp z) (by omega))]
            refine r_iconst C dX5_personAt_39 ic_1 ?_
            refine r_isub C dX5_personAt_40 ?_
            refine r_istore C dX5_personAt_41 rfl rfl ?_
            have loop_43 : ∀ (r : Nat) , (r ≤ 6) → (rsStandLp v h (nI j) y (rsPick v (h + (21 + 3 * j)) y z) r = rsStandLp v h (nI j) y (rsPick v (h + (21 + 3 * j)) y z) q) → WM g p l e rm_X5_personAt s m args below meth c Q tpl b n v 43 [some (.ref (b + (h + 1))), some (.int (nI j)), some (.int y), some (.int z), some (.int (nI r - 1))] [] := by
              intro r
              induction r with
              | zero =>
                intro hi hR
                refine r_iload C dX5_personAt_43 rfl ?_
                refine r_if_lt (tgt := 93) C dX5_personAt_45 rfl (fun c_45 => ?_) (fun c_45 => ?_)
                · skip
                  refine r_aload_n C dX5_personAt_93 rfl ?_
                  refine gf_X5_19 C dX5_personAt_94 t.1 (t.k (by decide)) ?_
                  refine r_iload_n C dX5_personAt_97 rfl ?_
                  refine r_aald (t0 := 5) C dX5_personAt_98 t.2.2.1 rfl (t.k (by decide)) (j := j) rfl hj rfl rfl ?_
                  refine r_astore C dX5_personAt_99 rfl rfl ?_
                  refine r_aload C dX5_personAt_101 rfl ?_
                  refine gf_X5_125 C dX5_personAt_103 (t.2.2.2.2.2.1 j hj).1 (t.2.2.2.2.2.1 j hj).k ?_
                  refine r_iconst C dX5_personAt_106 ic_1 ?_
                  refine r_icmp_lt (tgt := 119) C dX5_personAt_107 rfl (fun c_107 => ?_) (fun c_107 => ?_)
                  · skip
                    refine r_iconst C dX5_personAt_119 ic_m1 ?_
                    exact hE _ _ _ _ dX5_personAt_120 (And.intro (congrArg (fun z => some (Value.int z)) (by first | (rw [hres, ← hR]; simp [rsStandLp, rsPick, c_45, c_107]; done) | (simp [rsPersonAt, rsPick, c_45, c_107]; done))) rfl)
                  · skip
                    refine r_aload C dX5_personAt_110 rfl ?_
                    refine gf_X5_128 C dX5_personAt_112 (t.2.2.2.2.2.1 j hj).1 (t.2.2.2.2.2.1 j hj).k ?_
                    refine r_iconst C dX5_personAt_115 ic_1 ?_
                    refine r_icmp_ge (tgt := 121) C dX5_personAt_116 rfl (fun c_116 => ?_) (fun c_116 => ?_)
                    · skip
                      refine r_aload C dX5_personAt_121 rfl ?_
                      refine r_iload_n C dX5_personAt_123 rfl ?_
                      refine r_bipush C dX5_personAt_124 bp_60 ?_
                      refine r_idiv C dX5_personAt_126 (by decide) ?_
                      refine r_aload C dX5_personAt_127 rfl ?_
                      refine gf_X5_125 C dX5_personAt_129 (t.2.2.2.2.2.1 j hj).1 (t.2.2.2.2.2.1 j hj).k ?_
                      refine r_idiv C dX5_personAt_132 (fun z0 => absurd (show v (h + (21 + 3 * j)) 2 < 1 by rw [z0]; decide) c_107) ?_
                      refine r_iload_n C dX5_personAt_133 rfl ?_
                      refine r_iadd C dX5_personAt_134 ?_
                      refine r_aload C dX5_personAt_135 rfl ?_
                      refine gf_X5_128 C dX5_personAt_137 (t.2.2.2.2.2.1 j hj).1 (t.2.2.2.2.2.1 j hj).k ?_
                      refine r_irem C dX5_personAt_140 (fun z0 => absurd (show v (h + (21 + 3 * j)) 3 < 1 by rw [z0]; decide) c_116) ?_
                      refine cvI_X5_131 C dX5_personAt_141 (c_X4_memberAt _ (t.2.2.2.2.2.1 j hj) _) (t.2.2.2.2.2.1 j hj).1 (t.2.2.2.2.2.1 j hj).k ⟨rfl, rfl⟩ rfl rfl rfl ?_
                      exact hE _ _ _ _ dX5_personAt_144 (And.intro (congrArg (fun z => some (Value.int z)) (by first | (rw [hres, ← hR]; simp [rsStandLp, rsPick, c_45, c_107, c_116]; done) | (simp [rsPersonAt, rsPick, c_45, c_107, c_116]; done))) rfl)
                    · skip
                      refine r_iconst C dX5_personAt_119 ic_m1 ?_
                      exact hE _ _ _ _ dX5_personAt_120 (And.intro (congrArg (fun z => some (Value.int z)) (by first | (rw [hres, ← hR]; simp [rsStandLp, rsPick, c_45, c_107, c_116]; done) | (simp [rsPersonAt, rsPick, c_45, c_107, c_116]; done))) rfl)
                · exact absurd (by rw [nI_0]; decide) c_45
              | succ r ih_43 =>
                intro hi hR
                refine r_iload C dX5_personAt_43 rfl ?_
                refine r_if_lt (tgt := 93) C dX5_personAt_45 rfl (fun c_45 => ?_) (fun c_45 => ?_)
                · exact absurd c_45 (by rw [nI_pred]; exact nI_pos (by omega))
                · skip
                  refine r_aload_n C dX5_personAt_48 rfl ?_
                  refine gf_X5_25 C dX5_personAt_49 t.1 (t.k (by decide)) ?_
                  refine r_iload C dX5_personAt_52 rfl ?_
                  refine r_aald (t0 := 6) C dX5_personAt_54 t.2.2.2.1 rfl (t.k (by decide)) (j := r) (nI_pred r) (by omega) rfl rfl ?_
                  refine gf_X5_104 C dX5_personAt_55 (t.2.2.2.2.2.2.1 r (by omega)) (t.k (by omega)) ?_
                  refine r_iload_n C dX5_personAt_58 rfl ?_
                  refine r_icmp_ne (tgt := 87) C dX5_personAt_59 rfl (fun c_59 => ?_) (fun c_59 => ?_)
                  · skip
                    refine r_iinc C dX5_personAt_87 rfl (iinc_m1 _) rfl ?_
                    refine r_goto (tgt := 43) C dX5_personAt_90 rfl ?_
                    rw [nI_pred]
                    exact ih_43 (by omega) (by rw [← hR]; simp [rsStandLp, c_45, c_59])
                  · skip
                    refine r_aload_n C dX5_personAt_62 rfl ?_
                    refine gf_X5_25 C dX5_personAt_63 t.1 (t.k (by decide)) ?_
                    refine r_iload C dX5_personAt_66 rfl ?_
                    refine r_aald (t0 := 6) C dX5_personAt_68 t.2.2.2.1 rfl (t.k (by decide)) (j := r) (nI_pred r) (by omega) rfl rfl ?_
                    refine r_iload_n C dX5_personAt_69 rfl ?_
                    refine cvI_X5_97 C dX5_personAt_70 (c_X8_isInForce _ (t.2.2.2.2.2.2.1 r (by omega)) (t.k (by omega)) _) (t.2.2.2.2.2.2.1 r (by omega)) (t.k (by omega)) ⟨rfl, rfl⟩ rfl rfl rfl ?_
                    refine r_if_eq (tgt := 87) C dX5_personAt_73 rfl (fun c_73 => ?_) (fun c_73 => ?_)
                    · skip
                      rw [ite0] at c_73
                      refine r_iinc C dX5_personAt_87 rfl (iinc_m1 _) rfl ?_
                      refine r_goto (tgt := 43) C dX5_personAt_90 rfl ?_
                      rw [nI_pred]
                      exact ih_43 (by omega) (by rw [← hR]; simp [rsStandLp, c_45, c_59, c_73])
                    · skip
                      rw [ite0, Classical.not_not] at c_73
                      refine r_aload_n C dX5_personAt_76 rfl ?_
                      refine gf_X5_25 C dX5_personAt_77 t.1 (t.k (by decide)) ?_
                      refine r_iload C dX5_personAt_80 rfl ?_
                      refine r_aald (t0 := 6) C dX5_personAt_82 t.2.2.2.1 rfl (t.k (by decide)) (j := r) (nI_pred r) (by omega) rfl rfl ?_
                      refine gf_X5_107 C dX5_personAt_83 (t.2.2.2.2.2.2.1 r (by omega)) (t.k (by omega)) ?_
                      exact hE _ _ _ _ dX5_personAt_86 (And.intro (congrArg (fun z => some (Value.int z)) (by first | (rw [hres, ← hR]; simp [rsStandLp, rsPick, c_45, c_59, c_73]; done) | (simp [rsPersonAt, rsPick, c_45, c_59, c_73]; done))) rfl)
            exact loop_43 q hq6 rfl
        · skip
          refine r_iconst C dX5_personAt_21 ic_m1 ?_
          exact hE _ _ _ _ dX5_personAt_22 (And.intro (congrArg (fun z => some (Value.int z)) (by first | (rw [hres, ← hR]; simp [rsStandLp, rsPick, c_1, c_10, c_14, c_18]; done) | (simp [rsPersonAt, rsPick, c_1, c_10, c_14, c_18]; done))) rfl)
