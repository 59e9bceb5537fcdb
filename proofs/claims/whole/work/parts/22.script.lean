set_option maxRecDepth 100000 in
set_option maxHeartbeats 4000000 in
theorem c_X6_perform {g : mG} {l : Launch} {tpl : mT} {b n : Nat} {v : mV} (k : Nat) (hs : isS g tpl b n k) (h : Nat) (hh : isH g tpl b n h) (hd : k + 3 ≤ h ∨ h + 46 ≤ k) (hC : chOK v k) (hS : SQ v h) (len : Nat) (hl : v k 2 = nI len) (hl8 : len ≤ 80) : CT g l tpl b n yX6_perform cX6_perform 5 none rm_X6_perform [.ref (b + k), .ref (b + h)] v (pV (scPerf v k h)) := by
  refine CT.introV [some (.ref (b + k)), some (.ref (b + h)), none, none, none] (own := RX6) (by decide +kernel) rfl rfl rfl rfl ?_
  intro p e s m args below meth c Q C hE
  refine r_iconst C dX6_perform_0 ic_0 ?_
  refine r_istore_n C dX6_perform_1 rfl rfl ?_
  refine r_aload_n C dX6_perform_2 rfl ?_
  refine r_iconst C dX6_perform_3 ic_0 ?_
  refine pf_X6_26 C dX6_perform_4 hs.1 hs.k0 ?_
  refine r_aload_n C dX6_perform_7 rfl ?_
  refine r_iconst C dX6_perform_8 ic_m1 ?_
  refine pf_X6_19 C dX6_perform_9 hs.1 hs.k0 ?_
  refine r_iconst C dX6_perform_12 ic_0 ?_
  refine r_istore_n C dX6_perform_13 rfl rfl ?_
  have loop_14 : ∀ (r : Nat) (i a : Nat) (w : mV) (z : Option Value), (i + r = 80) → (a ≤ 200) → (scPerfLp k h r a w = scPerf v k h) → (chOK w k) → (SQ w h) → (w k 2 = nI len) → WM g p l e rm_X6_perform s m args below meth c Q tpl b n w 14 [some (.ref (b + k)), some (.ref (b + h)), some (.int (nI a)), some (.int (nI i)), z] [] := by
    intro r
    induction r with
    | zero =>
      intro i a w z hi ha hR hwC hwS hwl
      refine r_iload_n C dX6_perform_14 rfl ?_
      refine r_bipush C dX6_perform_15 bp_80 ?_
      refine r_icmp_ge (tgt := 90) C dX6_perform_17 rfl (fun c_17 => ?_) (fun c_17 => ?_)
      · skip
        exact hE _ _ _ dX6_perform_90 (And.intro rfl (by rw [← hR]; simp [scPerfLp, scRun2, c_17, u2_r, upd]))
      · exact absurd c_17 (nI_nlt (a := i) (b := 80) (by omega) (by omega))
    | succ r ih_14 =>
      intro i a w z hi ha hR hwC hwS hwl
      refine r_iload_n C dX6_perform_14 rfl ?_
      refine r_bipush C dX6_perform_15 bp_80 ?_
      refine r_icmp_ge (tgt := 90) C dX6_perform_17 rfl (fun c_17 => ?_) (fun c_17 => ?_)
      · exact absurd (nI_lt (a := i) (b := 80) (by omega) (by omega)) c_17
      · skip
        refine r_iload_n C dX6_perform_20 rfl ?_
        refine r_aload_n C dX6_perform_21 rfl ?_
        refine gf_X6_23 C dX6_perform_22 hs.1 hs.k0 ?_
        refine r_icmp_ge (tgt := 90) C dX6_perform_25 rfl (fun c_25 => ?_) (fun c_25 => ?_)
        · skip
          exact hE _ _ _ dX6_perform_90 (And.intro rfl (by rw [← hR]; simp [scPerfLp, scRun2, c_17, c_25, u2_r, upd]))
        · skip
          rw [hwl] at c_25
          have ha2 : a < len := (na_lt rfl rfl (by omega) (by omega)).mp c_25
          have c_25 : nI a < w k 2 := by rw [hwl]; exact c_25
          refine r_aload_n C dX6_perform_28 rfl ?_
          refine r_iload_n C dX6_perform_29 rfl ?_
          refine cvI_X6_29 C dX6_perform_30 (c_X6_readCommand k hs hwC a (by omega)) hs.1 hs.k0 ⟨rfl, rfl⟩ rfl rfl rfl ?_
          refine r_istore C dX6_perform_33 rfl rfl ?_
          refine r_aload_n C dX6_perform_35 rfl ?_
          refine r_iload C dX6_perform_36 rfl ?_
          refine r_iconst C dX6_perform_38 ic_m1 ?_
          refine r_icmp_ne (tgt := 46) C dX6_perform_39 rfl (fun c_39 => ?_) (fun c_39 => ?_)
          · skip
            have hS1 : SQ (scCmd w k a).2 h := SQ_of (scCmd_o (by omega) (by omega)) hwS
            have hr1 : scRun1 w k h a = (scReason (scObey (scCmd w k a).2 k h).1, (scObey (scCmd w k a).2 k h).2) := if_neg c_39
            obtain ⟨q, hq6, hq⟩ := id hS1
            refine r_aload_n C dX6_perform_46 rfl ?_
            refine r_aload_n C dX6_perform_47 rfl ?_
            refine cvI_X6_33 C dX6_perform_48 (c_X6_obey k hs h hh q hq hq6) hs.1 hs.k0 ⟨rfl, rfl⟩ rfl rfl rfl ?_
            refine cvI_X6_37 C dX6_perform_51 (c_X6_reasonOf _) ⟨rfl, rfl⟩ rfl rfl rfl ?_
            refine pf_X6_19 C dX6_perform_54 hs.1 hs.k0 ?_
            refine r_aload_n C dX6_perform_57 rfl ?_
            refine gf_X6_19 C dX6_perform_58 hs.1 hs.k0 ?_
            refine r_iconst C dX6_perform_61 ic_m1 ?_
            refine r_icmp_eq (tgt := 71) C dX6_perform_62 rfl (fun c_62 => ?_) (fun c_62 => ?_)
            · skip
              rw [u2_r, upd_r] at c_62
              refine r_aload_n C dX6_perform_71 rfl ?_
              refine r_dup C dX6_perform_72 rfl ?_
              refine gf_X6_26 C dX6_perform_73 hs.1 hs.k0 ?_
              refine r_iconst C dX6_perform_76 ic_1 ?_
              refine r_iadd C dX6_perform_77 ?_
              refine pf_X6_26 C dX6_perform_78 hs.1 hs.k0 ?_
              refine r_iload C dX6_perform_81 rfl ?_
              refine r_istore_n C dX6_perform_83 rfl rfl ?_
              refine r_iinc C dX6_perform_84 rfl (nI_inc _) rfl ?_
              refine r_goto (tgt := 14) C dX6_perform_87 rfl ?_
              obtain ⟨a2, ea2, ha3⟩ := (scCmd_or (v := w) (k := k) (s0 := a) (by omega)).resolve_left c_39
              have na2 : (scCmd w k a).1.toNatClampNeg = a2 := by rw [ea2]; exact nI_clamp (by omega)
              rw [ea2]
              refine ih_14 (i + 1) a2 _ _ (by omega) ha3 (by rw [← hR]; simp [scPerfLp, scRun2, c_17, c_25, c_39, hr1, c_62, na2, u2_r, upd]) (chOK_of (by simp (disch := omega) only [u2_o, scObey_out, scCmd_o]) hwC) (SQ_of (by simp (disch := omega) only [u2_o]) (scObey_SQ (k := k) hS1)) (by simp (disch := omega) only [u2_r, upd_o, scObey_out, scCmd_2]; exact hwl)
            · skip
              rw [u2_r, upd_r] at c_62
              refine r_aload_n C dX6_perform_65 rfl ?_
              refine r_iload_n C dX6_perform_66 rfl ?_
              refine pf_X6_40 C dX6_perform_67 hs.1 hs.k0 ?_
              exact hE _ _ _ dX6_perform_70 (And.intro rfl (by rw [← hR]; simp [scPerfLp, scRun2, c_17, c_25, c_39, hr1, c_62, u2_r, upd]))
          · skip
            have hr1a : scRun1 w k h a = (1, (scCmd w k a).2) := if_pos c_39
            refine r_iconst C dX6_perform_42 ic_1 ?_
            refine r_goto (tgt := 54) C dX6_perform_43 rfl ?_
            refine pf_X6_19 C dX6_perform_54 hs.1 hs.k0 ?_
            refine r_aload_n C dX6_perform_57 rfl ?_
            refine gf_X6_19 C dX6_perform_58 hs.1 hs.k0 ?_
            refine r_iconst C dX6_perform_61 ic_m1 ?_
            refine r_icmp_eq (tgt := 71) C dX6_perform_62 rfl (fun c_62 => ?_) (fun c_62 => ?_)
            · rw [u2_r, upd_r] at c_62
              exact absurd c_62 (by decide)
            · skip
              rw [u2_r, upd_r] at c_62
              refine r_aload_n C dX6_perform_65 rfl ?_
              refine r_iload_n C dX6_perform_66 rfl ?_
              refine pf_X6_40 C dX6_perform_67 hs.1 hs.k0 ?_
              exact hE _ _ _ dX6_perform_70 (And.intro rfl (by rw [← hR]; simp [scPerfLp, scRun2, c_17, c_25, c_39, hr1a, c_62, u2_r, upd]))
  exact loop_14 80 0 0 _ none rfl (by omega) rfl (chOK_of (by rw [u2_o (by omega), u2_o (by omega)]) hC) (SQ_of (by rw [u2_o (by omega), u2_o (by omega)]) hS) (by rw [u2_r, upd_o (by omega), u2_r, upd_o (by omega)]; exact hl)
