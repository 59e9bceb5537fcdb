set_option maxRecDepth 100000 in
set_option maxHeartbeats 4000000 in
theorem c_X10_later {g : mG} {l : Launch} {tpl : mT} {b n : Nat} {v : mV} (hz : isZ g tpl b n) (hc : CI v) (x y z : Int32) : CT g l tpl b n yX10_later cX10_later 5 (some .int) rm_X10_later [.ref (b + 0), .int x, .int y, .int z] v (pI (zLater v x y z).1 (zLater v x y z).2) := by
  refine CT.introI [some (.ref (b + 0)), some (.int x), some (.int y), some (.int z), none] (own := RX10) (by decide +kernel) rfl rfl rfl rfl ?_
  intro p e s m args below meth c Q C hE
  refine r_aload_n C dX10_later_0 rfl ?_
  refine gf_X10_10 C dX10_later_1 hz.1 hz.2.2.2.2.2 ?_
  refine r_iload_n C dX10_later_4 rfl ?_
  refine cvI_X10_140 C dX10_later_5 (c_X1_isOpen 1 hz.2.1 _) hz.2.1.1 hz.2.1.k0 ⟨rfl, rfl⟩ rfl rfl rfl ?_
  refine r_if_eq (tgt := 32) C dX10_later_8 rfl (fun c_8 => ?_) (fun c_8 => ?_)
  · skip
    refine r_iconst C dX10_later_32 ic_m1 ?_
    exact hE _ _ _ _ dX10_later_33 (by simp [pI, zLater, zFound, c_8])
  · skip
    refine r_iload_n C dX10_later_11 rfl ?_
    refine r_iconst C dX10_later_12 ic_1 ?_
    refine r_icmp_lt (tgt := 32) C dX10_later_13 rfl (fun c_13 => ?_) (fun c_13 => ?_)
    · skip
      refine r_iconst C dX10_later_32 ic_m1 ?_
      exact hE _ _ _ _ dX10_later_33 (by simp [pI, zLater, zFound, c_8, c_13])
    · skip
      refine r_iload_n C dX10_later_16 rfl ?_
      refine r_sipush C dX10_later_17 sp_600 ?_
      refine r_icmp_gt (tgt := 32) C dX10_later_20 rfl (fun c_20 => ?_) (fun c_20 => ?_)
      · skip
        refine r_iconst C dX10_later_32 ic_m1 ?_
        exact hE _ _ _ _ dX10_later_33 (by simp [pI, zLater, zFound, c_8, c_13, c_20])
      · skip
        refine r_iload_n C dX10_later_23 rfl ?_
        refine r_if_lt (tgt := 32) C dX10_later_24 rfl (fun c_24 => ?_) (fun c_24 => ?_)
        · skip
          refine r_iconst C dX10_later_32 ic_m1 ?_
          exact hE _ _ _ _ dX10_later_33 (by simp [pI, zLater, zFound, c_8, c_13, c_20, c_24])
        · skip
          refine r_iload_n C dX10_later_27 rfl ?_
          refine r_iconst C dX10_later_28 ic_2 ?_
          refine r_icmp_le (tgt := 34) C dX10_later_29 rfl (fun c_29 => ?_) (fun c_29 => ?_)
          · skip
            obtain ⟨j, hj, rfl⟩ := hsOpen_of c_8
            have nc : (nI j).toNatClampNeg = j := nI_clamp (by omega)
            obtain ⟨M, hM, rfl⟩ : ∃ M : Nat, M ≤ 600 ∧ y = nI M := nI_of2 (n := 600) (M := 600) (by decide +kernel) (fun z => c_13 (Int32.lt_trans z (by decide))) (Int32.not_lt.mp c_20)
            have nM : (nI M).toNatClampNeg = M := nI_clamp (by omega)
            have ho : ¬ v (1 + (38 + j)) 0 = 0 := fun z0 => c_8 (by simp [hsOpen, nc, z0])
            obtain ⟨q, hq6, hq⟩ := hc.1
            refine r_aload_n C dX10_later_34 rfl ?_
            refine gf_X10_16 C dX10_later_35 hz.1 hz.2.2.2.2.2 ?_
            refine r_aload_n C dX10_later_38 rfl ?_
            refine gf_X10_10 C dX10_later_39 hz.1 hz.2.2.2.2.2 ?_
            refine cvV_X10_228 C dX10_later_42 (c_X1_copyFrom 47 1 hz.2.2.1 hz.2.1 (by omega) hc.2.2.1) hz.2.2.1.1 hz.2.2.1.k0 ⟨rfl, rfl⟩ rfl rfl rfl ?_
            refine r_aload_n C dX10_later_45 rfl ?_
            refine gf_X10_16 C dX10_later_46 hz.1 hz.2.2.2.2.2 ?_
            refine r_iload_n C dX10_later_49 rfl ?_
            refine r_iload_n C dX10_later_50 rfl ?_
            refine cvV_X10_231 C dX10_later_51 (c_X1_follow 47 hz.2.2.1 q (by rw [show (47 + 1 : Nat) = 47 + 1 from rfl, cpB_in (by omega) (by omega)]; exact hq) hq6 j hj (by rw [cpB_in (by omega) (by omega)]; exact ho) M hM) hz.2.2.1.1 hz.2.2.1.k0 ⟨rfl, rfl⟩ rfl rfl rfl ?_
            have ew : hsFols 47 j M (cpB v 47 1 0 46) = zLate v (nI j) (nI M) := by simp [zLate, nc, nM]
            rw [ew]
            refine r_aload_n C dX10_later_54 rfl ?_
            refine gf_X10_16 C dX10_later_55 hz.1 hz.2.2.2.2.2 ?_
            refine gf_X10_143 C dX10_later_58 hz.2.2.1.1 hz.2.2.1.k0 ?_
            refine r_iload_n C dX10_later_61 rfl ?_
            refine r_aald (t0 := 3) C dX10_later_62 hz.2.2.1.2.2.1 rfl (hz.2.2.1.k (by decide)) (j := j) rfl hj rfl rfl ?_
            refine r_astore C dX10_later_63 rfl rfl ?_
            refine r_iload_n C dX10_later_65 rfl ?_
            refine r_iconst C dX10_later_66 ic_1 ?_
            refine r_icmp_ne (tgt := 76) C dX10_later_67 rfl (fun c_67 => ?_) (fun c_67 => ?_)
            · skip
              refine r_iload_n C dX10_later_76 rfl ?_
              refine r_iconst C dX10_later_77 ic_2 ?_
              refine r_icmp_ne (tgt := 87) C dX10_later_78 rfl (fun c_78 => ?_) (fun c_78 => ?_)
              · skip
                refine r_aload C dX10_later_87 rfl ?_
                refine gf_X10_158 C dX10_later_89 (hz.2.2.1.2.2.2.2.1 j hj) (hz.2.2.1.k (by omega)) ?_
                refine r_iconst C dX10_later_92 ic_m1 ?_
                refine r_icmp_ne (tgt := 101) C dX10_later_93 rfl (fun c_93 => ?_) (fun c_93 => ?_)
                · skip
                  refine r_aload C dX10_later_101 rfl ?_
                  refine gf_X10_158 C dX10_later_103 (hz.2.2.1.2.2.2.2.1 j hj) (hz.2.2.1.k (by omega)) ?_
                  exact hE _ _ _ _ dX10_later_106 (by simp [pI, zLater, zFound, c_8, c_13, c_20, c_24, c_29, nc, nM, c_67, c_78, c_93])
                · skip
                  refine r_bipush C dX10_later_96 bp_m4 ?_
                  refine r_goto (tgt := 106) C dX10_later_98 rfl ?_
                  exact hE _ _ _ _ dX10_later_106 (by simp [pI, zLater, zFound, c_8, c_13, c_20, c_24, c_29, nc, nM, c_67, c_78, c_93])
              · skip
                refine r_aload C dX10_later_81 rfl ?_
                refine gf_X10_174 C dX10_later_83 (hz.2.2.1.2.2.2.2.1 j hj) (hz.2.2.1.k (by omega)) ?_
                exact hE _ _ _ _ dX10_later_86 (by simp [pI, zLater, zFound, c_8, c_13, c_20, c_24, c_29, nc, nM, c_67, c_78])
            · skip
              refine r_aload C dX10_later_70 rfl ?_
              refine gf_X10_155 C dX10_later_72 (hz.2.2.1.2.2.2.2.1 j hj) (hz.2.2.1.k (by omega)) ?_
              exact hE _ _ _ _ dX10_later_75 (by simp [pI, zLater, zFound, c_8, c_13, c_20, c_24, c_29, nc, nM, c_67])
          · skip
            refine r_iconst C dX10_later_32 ic_m1 ?_
            exact hE _ _ _ _ dX10_later_33 (by simp [pI, zLater, zFound, c_8, c_13, c_20, c_24, c_29])
set_option maxRecDepth 100000 in
set_option maxHeartbeats 4000000 in
theorem c_X10_undo {g : mG} {l : Launch} {tpl : mT} {b n : Nat} {v : mV} (hz : isZ g tpl b n) (hc : CI v) : CT g l tpl b n yX10_undo cX10_undo 1 (some .int) rm_X10_undo [.ref (b + 0)] v (pI (zUndo v).1 (zUndo v).2) := by
  refine CT.introI [some (.ref (b + 0))] (own := RX10) (by decide +kernel) rfl rfl rfl rfl ?_
  intro p e s m args below meth c Q C hE
  refine r_aload_n C dX10_undo_0 rfl ?_
  refine gf_X10_22 C dX10_undo_1 hz.1 hz.2.2.2.2.2 ?_
  refine gf_X10_201 C dX10_undo_4 hz.2.2.2.1.1 hz.2.2.2.1.k0 ?_
  refine r_if_gt (tgt := 13) C dX10_undo_7 rfl (fun c_7 => ?_) (fun c_7 => ?_)
  · skip
    refine r_aload_n C dX10_undo_13 rfl ?_
    refine gf_X10_22 C dX10_undo_14 hz.1 hz.2.2.2.2.2 ?_
    refine r_aload_n C dX10_undo_17 rfl ?_
    refine gf_X10_10 C dX10_undo_18 hz.1 hz.2.2.2.2.2 ?_
    refine cvV_X10_249 C dX10_undo_21 (c_X0_restore 93 hz.2.2.2.1 1 hz.2.1 (by omega) hc.2.1 hc.2.2.2.1) hz.2.2.2.1.1 hz.2.2.2.1.k0 ⟨rfl, rfl⟩ rfl rfl rfl ?_
    refine r_aload_n C dX10_undo_24 rfl ?_
    refine gf_X10_22 C dX10_undo_25 hz.1 hz.2.2.2.2.2 ?_
    refine gf_X10_201 C dX10_undo_28 hz.2.2.2.1.1 hz.2.2.2.1.k0 ?_
    exact hE _ _ _ _ dX10_undo_31 (by simp [pI, zUndo, c_7])
  · skip
    refine r_bipush C dX10_undo_10 bp_m2 ?_
    exact hE _ _ _ _ dX10_undo_12 (by simp [pI, zUndo, c_7])
set_option maxRecDepth 100000 in
set_option maxHeartbeats 4000000 in
theorem c_X10_type {g : mG} {l : Launch} {tpl : mT} {b n : Nat} {v : mV} (hz : isZ g tpl b n) (hc : CI v) (x : Int32) : CT g l tpl b n yX10_type cX10_type 2 (some .int) rm_X10_type [.ref (b + 0), .int x] v (pI (zType v x).1 (zType v x).2) := by
  refine CT.introI [some (.ref (b + 0)), some (.int x)] (own := RX10) (by decide +kernel) rfl rfl rfl rfl ?_
  intro p e s m args below meth c Q C hE
  refine r_iload_n C dX10_type_0 rfl ?_
  refine r_bipush C dX10_type_1 bp_32 ?_
  refine r_icmp_lt (tgt := 12) C dX10_type_3 rfl (fun c_3 => ?_) (fun c_3 => ?_)
  · skip
    refine r_iconst C dX10_type_12 ic_m1 ?_
    exact hE _ _ _ _ dX10_type_13 (by simp [pI, zType, c_3])
  · skip
    refine r_iload_n C dX10_type_6 rfl ?_
    refine r_bipush C dX10_type_7 bp_126 ?_
    refine r_icmp_le (tgt := 14) C dX10_type_9 rfl (fun c_9 => ?_) (fun c_9 => ?_)
    · skip
      obtain ⟨j, hj, rfl⟩ : ∃ j : Nat, j ≤ 126 ∧ x = nI j := nI_of2 (n := 126) (M := 126) (by decide +kernel) (fun z => c_3 (Int32.lt_trans z (by decide))) (Int32.not_lt.mp c_9)
      refine r_aload_n C dX10_type_14 rfl ?_
      refine gf_X10_29 C dX10_type_15 hz.1 hz.2.2.2.2.2 ?_
      refine r_iload_n C dX10_type_18 rfl ?_
      refine r_i2c C dX10_type_19 (ch_i2c j (by omega)) ?_
      refine cvI_X10_252 C dX10_type_20 (c_X6_append 325 hz.2.2.2.2.1 _ (ch_nar j (by omega))) hz.2.2.2.2.1.1 hz.2.2.2.2.1.k0 ⟨rfl, rfl⟩ rfl rfl rfl ?_
      exact hE _ _ _ _ dX10_type_23 (by simp [pI, zType, c_3, c_9])
    · skip
      refine r_iconst C dX10_type_12 ic_m1 ?_
      exact hE _ _ _ _ dX10_type_13 (by simp [pI, zType, c_3, c_9])
set_option maxRecDepth 100000 in
set_option maxHeartbeats 4000000 in
theorem c_X10_clearText {g : mG} {l : Launch} {tpl : mT} {b n : Nat} {v : mV} (hz : isZ g tpl b n) (hc : CI v) : CT g l tpl b n yX10_clearText cX10_clearText 2 (some .int) rm_X10_clearText [.ref (b + 0)] v (pI (v 325 2) (u2 v 325 2 0)) := by
  refine CT.introI [some (.ref (b + 0)), none] (own := RX10) (by decide +kernel) rfl rfl rfl rfl ?_
  intro p e s m args below meth c Q C hE
  refine r_aload_n C dX10_clearText_0 rfl ?_
  refine gf_X10_29 C dX10_clearText_1 hz.1 hz.2.2.2.2.2 ?_
  refine gf_X10_204 C dX10_clearText_4 hz.2.2.2.2.1.1 hz.2.2.2.2.1.k0 ?_
  refine r_istore_n C dX10_clearText_7 rfl rfl ?_
  refine r_aload_n C dX10_clearText_8 rfl ?_
  refine gf_X10_29 C dX10_clearText_9 hz.1 hz.2.2.2.2.2 ?_
  refine r_iconst C dX10_clearText_12 ic_0 ?_
  refine pf_X10_204 C dX10_clearText_13 hz.2.2.2.2.1.1 hz.2.2.2.2.1.k0 ?_
  refine r_iload_n C dX10_clearText_16 rfl ?_
  exact hE _ _ _ _ dX10_clearText_17 (And.intro rfl rfl)
set_option maxRecDepth 100000 in
set_option maxHeartbeats 4000000 in
theorem c_X10_fault {g : mG} {l : Launch} {tpl : mT} {b n : Nat} {v : mV} (hz : isZ g tpl b n) (hc : CI v) (x : Int32) : CT g l tpl b n yX10_fault cX10_fault 2 (some .int) rm_X10_fault [.ref (b + 0), .int x] v (pI (zFault v x).1 (zFault v x).2) := by
  refine CT.introI [some (.ref (b + 0)), some (.int x)] (own := RX10) (by decide +kernel) rfl rfl rfl rfl ?_
  intro p e s m args below meth c Q C hE
  refine r_iload_n C dX10_fault_0 rfl ?_
  refine r_if_lt (tgt := 9) C dX10_fault_1 rfl (fun c_1 => ?_) (fun c_1 => ?_)
  · skip
    refine r_iconst C dX10_fault_9 ic_m1 ?_
    exact hE _ _ _ _ dX10_fault_10 (by simp [pI, zFault, c_1])
  · skip
    refine r_iload_n C dX10_fault_4 rfl ?_
    refine r_iconst C dX10_fault_5 ic_1 ?_
    refine r_icmp_le (tgt := 11) C dX10_fault_6 rfl (fun c_6 => ?_) (fun c_6 => ?_)
    · skip
      obtain ⟨len, hl8, hl⟩ := hc.2.2.2.2.2
      refine r_aload_n C dX10_fault_11 rfl ?_
      refine gf_X10_16 C dX10_fault_12 hz.1 hz.2.2.2.2.2 ?_
      refine r_aload_n C dX10_fault_15 rfl ?_
      refine gf_X10_10 C dX10_fault_16 hz.1 hz.2.2.2.2.2 ?_
      refine cvV_X10_228 C dX10_fault_19 (c_X1_copyFrom 47 1 hz.2.2.1 hz.2.1 (by omega) hc.2.2.1) hz.2.2.1.1 hz.2.2.1.k0 ⟨rfl, rfl⟩ rfl rfl rfl ?_
      refine r_aload_n C dX10_fault_22 rfl ?_
      refine gf_X10_29 C dX10_fault_23 hz.1 hz.2.2.2.2.2 ?_
      refine r_aload_n C dX10_fault_26 rfl ?_
      refine gf_X10_16 C dX10_fault_27 hz.1 hz.2.2.2.2.2 ?_
      refine cvV_X10_256 C dX10_fault_30 (c_X6_perform 325 hz.2.2.2.2.1 47 hz.2.2.1 (by omega) (chOK_of (cpB_out (by omega)) hc.2.2.2.2.1) (by obtain ⟨q, hq6, hq⟩ := hc.1; exact ⟨q, hq6, by rw [cpB_in (by omega) (by omega)]; exact hq⟩) len (by rw [cpB_out (by omega)]; exact hl) hl8) hz.2.2.2.2.1.1 hz.2.2.2.2.1.k0 ⟨rfl, rfl⟩ rfl rfl rfl ?_
      rw [show scPerf (cpB v 47 1 0 46) 325 47 = zDone v from rfl]
      refine r_aload_n C dX10_fault_33 rfl ?_
      refine gf_X10_29 C dX10_fault_34 hz.1 hz.2.2.2.2.2 ?_
      refine gf_X10_259 C dX10_fault_37 hz.2.2.2.2.1.1 hz.2.2.2.2.1.k0 ?_
      refine r_iconst C dX10_fault_40 ic_m1 ?_
      refine r_icmp_ne (tgt := 47) C dX10_fault_41 rfl (fun c_41 => ?_) (fun c_41 => ?_)
      · skip
        refine r_iload_n C dX10_fault_47 rfl ?_
        refine r_if_ne (tgt := 61) C dX10_fault_48 rfl (fun c_48 => ?_) (fun c_48 => ?_)
        · skip
          refine r_aload_n C dX10_fault_61 rfl ?_
          refine gf_X10_29 C dX10_fault_62 hz.1 hz.2.2.2.2.2 ?_
          refine gf_X10_259 C dX10_fault_65 hz.2.2.2.2.1.1 hz.2.2.2.2.1.k0 ?_
          exact hE _ _ _ _ dX10_fault_68 (by simp [pI, zFault, c_1, c_6, c_41, c_48])
        · skip
          refine r_aload_n C dX10_fault_51 rfl ?_
          refine gf_X10_29 C dX10_fault_52 hz.1 hz.2.2.2.2.2 ?_
          refine gf_X10_262 C dX10_fault_55 hz.2.2.2.2.1.1 hz.2.2.2.2.1.k0 ?_
          refine r_goto (tgt := 68) C dX10_fault_58 rfl ?_
          exact hE _ _ _ _ dX10_fault_68 (by simp [pI, zFault, c_1, c_6, c_41, c_48])
      · skip
        refine r_bipush C dX10_fault_44 bp_m4 ?_
        exact hE _ _ _ _ dX10_fault_46 (by simp [pI, zFault, c_1, c_6, c_41])
    · skip
      refine r_iconst C dX10_fault_9 ic_m1 ?_
      exact hE _ _ _ _ dX10_fault_10 (by simp [pI, zFault, c_1, c_6])
set_option maxRecDepth 100000 in
set_option maxHeartbeats 4000000 in
theorem c_X10_play {g : mG} {l : Launch} {tpl : mT} {b n : Nat} {v : mV} (hz : isZ g tpl b n) (hc : CI v) : CT g l tpl b n yX10_play cX10_play 1 (some .int) rm_X10_play [.ref (b + 0)] v (pI (zPlay v).1 (zPlay v).2) := by
  refine CT.introI [some (.ref (b + 0))] (own := RX10) (by decide +kernel) rfl rfl rfl rfl ?_
  intro p e s m args below meth c Q C hE
  obtain ⟨len, hl8, hl⟩ := hc.2.2.2.2.2
  refine r_aload_n C dX10_play_0 rfl ?_
  refine gf_X10_16 C dX10_play_1 hz.1 hz.2.2.2.2.2 ?_
  refine r_aload_n C dX10_play_4 rfl ?_
  refine gf_X10_10 C dX10_play_5 hz.1 hz.2.2.2.2.2 ?_
  refine cvV_X10_228 C dX10_play_8 (c_X1_copyFrom 47 1 hz.2.2.1 hz.2.1 (by omega) hc.2.2.1) hz.2.2.1.1 hz.2.2.1.k0 ⟨rfl, rfl⟩ rfl rfl rfl ?_
  refine r_aload_n C dX10_play_11 rfl ?_
  refine gf_X10_29 C dX10_play_12 hz.1 hz.2.2.2.2.2 ?_
  refine r_aload_n C dX10_play_15 rfl ?_
  refine gf_X10_16 C dX10_play_16 hz.1 hz.2.2.2.2.2 ?_
  refine cvV_X10_256 C dX10_play_19 (c_X6_perform 325 hz.2.2.2.2.1 47 hz.2.2.1 (by omega) (chOK_of (cpB_out (by omega)) hc.2.2.2.2.1) (by obtain ⟨q, hq6, hq⟩ := hc.1; exact ⟨q, hq6, by rw [cpB_in (by omega) (by omega)]; exact hq⟩) len (by rw [cpB_out (by omega)]; exact hl) hl8) hz.2.2.2.2.1.1 hz.2.2.2.2.1.k0 ⟨rfl, rfl⟩ rfl rfl rfl ?_
  rw [show scPerf (cpB v 47 1 0 46) 325 47 = zDone v from rfl]
  refine r_aload_n C dX10_play_22 rfl ?_
  refine gf_X10_29 C dX10_play_23 hz.1 hz.2.2.2.2.2 ?_
  refine gf_X10_259 C dX10_play_26 hz.2.2.2.2.1.1 hz.2.2.2.2.1.k0 ?_
  refine r_iconst C dX10_play_29 ic_m1 ?_
  refine r_icmp_eq (tgt := 36) C dX10_play_30 rfl (fun c_30 => ?_) (fun c_30 => ?_)
  · skip
    have hπ2 : hyPi (zDone v) 93 := hyPi_of (by rw [zDone, scPerf_out (by omega) (by omega), cpB_out (by omega)]) hc.2.1
    have hb1 : hB (zDone v) 1 := hB_of hc.2.2.1 (fun i hi => by rw [zDone, scPerf_out (by omega) (by omega), cpB_out (by omega)])
    have hb47 : hB (zDone v) 47 := scPerf_B (by omega) (fun i hi => by rw [cpB_in (by omega) (by omega)]; exact hc.2.2.1 i hi)
    refine r_aload_n C dX10_play_36 rfl ?_
    refine gf_X10_22 C dX10_play_37 hz.1 hz.2.2.2.2.2 ?_
    refine r_aload_n C dX10_play_40 rfl ?_
    refine gf_X10_10 C dX10_play_41 hz.1 hz.2.2.2.2.2 ?_
    refine cvV_X10_33 C dX10_play_44 (c_X0_prepare 93 hz.2.2.2.1 1 hz.2.1 (by omega) hπ2 hb1) hz.2.2.2.1.1 hz.2.2.2.1.k0 ⟨rfl, rfl⟩ rfl rfl rfl ?_
    rw [show hyPrep (zDone v) 93 1 = zPrep (zDone v) from rfl]
    have ho2 : ∀ q, q < 95 → zPrep (zDone v) q = zDone v q := fun q hq => hyPrep_out hπ2 (by omega)
    refine r_aload_n C dX10_play_47 rfl ?_
    refine gf_X10_10 C dX10_play_48 hz.1 hz.2.2.2.2.2 ?_
    refine r_aload_n C dX10_play_51 rfl ?_
    refine gf_X10_16 C dX10_play_52 hz.1 hz.2.2.2.2.2 ?_
    refine cvV_X10_228 C dX10_play_55 (c_X1_copyFrom 1 47 hz.2.1 hz.2.2.1 (by omega) (hB_of hb47 (fun i hi => ho2 _ (by omega)))) hz.2.1.1 hz.2.1.k0 ⟨rfl, rfl⟩ rfl rfl rfl ?_
    refine r_aload_n C dX10_play_58 rfl ?_
    refine r_aload_n C dX10_play_59 rfl ?_
    refine gf_X10_29 C dX10_play_60 hz.1 hz.2.2.2.2.2 ?_
    refine gf_X10_265 C dX10_play_63 hz.2.2.2.2.1.1 hz.2.2.2.2.1.k0 ?_
    refine cvI_X10_47 C dX10_play_66 (c_X10_settled hz (hyPi_of (by rw [cpB_out (by omega), ho2 _ (by omega)]) hπ2) _) hz.1 hz.2.2.2.2.2 ⟨rfl, rfl⟩ rfl rfl rfl ?_
    exact hE _ _ _ _ dX10_play_69 (by rw [zPlay, if_pos c_30]; unfold zSet; constructor <;> split <;> rfl)
  · skip
    refine r_bipush C dX10_play_33 bp_m2 ?_
    exact hE _ _ _ _ dX10_play_35 (by simp [pI, zPlay, c_30])
