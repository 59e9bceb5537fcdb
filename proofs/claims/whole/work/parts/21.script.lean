set_option maxRecDepth 100000 in
set_option maxHeartbeats 4000000 in
theorem c_X6_readCommand {g : mG} {l : Launch} {tpl : mT} {b n : Nat} {v : mV} (k : Nat) (hs : isS g tpl b n k) (hC : chOK v k) (s0 : Nat) (hs0 : s0 ≤ 80) : CT g l tpl b n yX6_readCommand cX6_readCommand 5 (some .int) rm_X6_readCommand [.ref (b + k), .int (nI s0)] v (pI (scCmd v k s0).1 (scCmd v k s0).2) := by
  refine CT.introI [some (.ref (b + k)), some (.int (nI s0)), none, none, none] (own := RX6) (by decide +kernel) rfl rfl rfl rfl ?_
  intro p e s m args below meth c Q C hE
  refine r_aload_n C dX6_readCommand_0 rfl ?_
  refine r_aload_n C dX6_readCommand_1 rfl ?_
  refine r_iload_n C dX6_readCommand_2 rfl ?_
  refine cvI_X6_65 C dX6_readCommand_3 (c_X6_signAt k hs hC _) hs.1 hs.k0 ⟨rfl, rfl⟩ rfl rfl rfl ?_
  refine pf_X6_43 C dX6_readCommand_6 hs.1 hs.k0 ?_
  refine r_aload_n C dX6_readCommand_9 rfl ?_
  refine gf_X6_43 C dX6_readCommand_10 hs.1 hs.k0 ?_
  rw [u2_r, upd_r]
  refine cvI_X6_69 C dX6_readCommand_13 (c_X6_numbersAfter _) ⟨rfl, rfl⟩ rfl rfl rfl ?_
  obtain ⟨M, hM, eM⟩ := scMany_of (scSign v k (nI s0))
  have nM : (nI M).toNatClampNeg = M := nI_clamp (by omega)
  rw [eM]
  refine r_istore_n C dX6_readCommand_16 rfl rfl ?_
  refine r_iload_n C dX6_readCommand_17 rfl ?_
  refine r_if_ne (tgt := 23) C dX6_readCommand_18 rfl (fun c_18 => ?_) (fun c_18 => ?_)
  · skip
    refine r_iload_n C dX6_readCommand_23 rfl ?_
    refine r_iconst C dX6_readCommand_24 ic_1 ?_
    refine r_iadd C dX6_readCommand_25 ?_
    refine r_istore_n C dX6_readCommand_26 rfl rfl ?_
    refine r_iconst C dX6_readCommand_27 ic_0 ?_
    refine r_istore C dX6_readCommand_28 rfl rfl ?_
    have loop_30 : ∀ (r : Nat) (i : Nat) (x : Int32) (w : mV), (i + r = M) → (x = -1 ∨ ∃ a, x = nI a ∧ a ≤ 81 + 4 * i) → (scCmdLp k (nI M) r i x w = scCmdLp k (nI M) M 0 (nI s0 + 1) (u2 v k 3 (scSign v k (nI s0)))) → (chOK w k) → WM g p l e rm_X6_readCommand s m args below meth c Q tpl b n w 30 [some (.ref (b + k)), some (.int (nI s0)), some (.int (nI M)), some (.int x), some (.int (nI i))] [] := by
      intro r
      induction r with
      | zero =>
        intro i x w hi hx hR hC2
        refine r_iload C dX6_readCommand_30 rfl ?_
        refine r_iload_n C dX6_readCommand_32 rfl ?_
        refine r_icmp_ge (tgt := 70) C dX6_readCommand_33 rfl (fun c_33 => ?_) (fun c_33 => ?_)
        · skip
          refine r_iload_n C dX6_readCommand_70 rfl ?_
          exact hE _ _ _ _ dX6_readCommand_71 (by first | (rw [scCmd, eM, if_neg c_18, nM, ← hR]; simp [pI, scCmdLp, c_33]; done))
        · exact absurd c_33 (nI_nlt (by omega) (by omega))
      | succ r ih_30 =>
        intro i x w hi hx hR hC2
        refine r_iload C dX6_readCommand_30 rfl ?_
        refine r_iload_n C dX6_readCommand_32 rfl ?_
        refine r_icmp_ge (tgt := 70) C dX6_readCommand_33 rfl (fun c_33 => ?_) (fun c_33 => ?_)
        · exact absurd (nI_lt (by omega) (by omega)) c_33
        · skip
          refine r_iload_n C dX6_readCommand_36 rfl ?_
          refine r_iconst C dX6_readCommand_37 ic_m1 ?_
          refine r_icmp_eq (tgt := 70) C dX6_readCommand_38 rfl (fun c_38 => ?_) (fun c_38 => ?_)
          · skip
            refine r_iload_n C dX6_readCommand_70 rfl ?_
            exact hE _ _ _ _ dX6_readCommand_71 (by first | (rw [scCmd, eM, if_neg c_18, nM, ← hR]; simp [pI, scCmdLp, c_33, c_38]; done))
          · skip
            obtain ⟨a, rfl, ha⟩ := hx.resolve_left c_38
            have na : (nI a).toNatClampNeg = a := nI_clamp (by omega)
            have nI_ne : (nI a = -1) = False := eq_false c_38
            refine r_aload_n C dX6_readCommand_41 rfl ?_
            refine r_iload_n C dX6_readCommand_42 rfl ?_
            refine r_iload C dX6_readCommand_43 rfl ?_
            refine r_iload C dX6_readCommand_45 rfl ?_
            refine r_iconst C dX6_readCommand_47 ic_1 ?_
            refine r_iadd C dX6_readCommand_48 ?_
            refine r_iload_n C dX6_readCommand_49 rfl ?_
            refine r_icmp_ge (tgt := 58) C dX6_readCommand_50 rfl (fun c_50 => ?_) (fun c_50 => ?_)
            · skip
              refine r_bipush C dX6_readCommand_58 bp_59 ?_
              refine cvI_X6_72 C dX6_readCommand_60 (c_X6_readNumber k hs hC2 a (by omega) _ _) hs.1 hs.k0 ⟨rfl, rfl⟩ rfl rfl rfl ?_
              refine r_istore_n C dX6_readCommand_63 rfl rfl ?_
              refine r_iinc C dX6_readCommand_64 rfl (nI_inc _) rfl ?_
              refine r_goto (tgt := 30) C dX6_readCommand_67 rfl ?_
              exact ih_30 (i + 1) _ _ (by omega) ((scNum_or _ _ _ _ _).imp id (fun ⟨a2, e1, e2⟩ => ⟨a2, e1, by omega⟩)) (by rw [← hR]; simp [scCmdLp, nI_ne, na, c_33, c_50]) (chOK_of (scNum_o (by omega)) hC2)
            · skip
              refine r_bipush C dX6_readCommand_53 bp_44 ?_
              refine r_goto (tgt := 60) C dX6_readCommand_55 rfl ?_
              refine cvI_X6_72 C dX6_readCommand_60 (c_X6_readNumber k hs hC2 a (by omega) _ _) hs.1 hs.k0 ⟨rfl, rfl⟩ rfl rfl rfl ?_
              refine r_istore_n C dX6_readCommand_63 rfl rfl ?_
              refine r_iinc C dX6_readCommand_64 rfl (nI_inc _) rfl ?_
              refine r_goto (tgt := 30) C dX6_readCommand_67 rfl ?_
              exact ih_30 (i + 1) _ _ (by omega) ((scNum_or _ _ _ _ _).imp id (fun ⟨a2, e1, e2⟩ => ⟨a2, e1, by omega⟩)) (by rw [← hR]; simp [scCmdLp, nI_ne, na, c_33, c_50]) (chOK_of (scNum_o (by omega)) hC2)
    exact loop_30 M 0 (nI s0 + 1) _ (by omega) (Or.inr ⟨s0 + 1, nI_1 s0, by omega⟩) rfl (chOK_of (u2_o (by omega)) hC)
  · skip
    refine r_iconst C dX6_readCommand_21 ic_m1 ?_
    exact hE _ _ _ _ dX6_readCommand_22 (by simp [pI, scCmd, eM, c_18])
set_option maxRecDepth 100000 in
set_option maxHeartbeats 4000000 in
theorem c_X6_obey {g : mG} {l : Launch} {tpl : mT} {b n : Nat} {v : mV} (k : Nat) (hs : isS g tpl b n k) (h : Nat) (hh : isH g tpl b n h) (q : Nat) (hq : v (h + 1) 5 = nI q) (hq6 : q ≤ 6) : CT g l tpl b n yX6_obey cX6_obey 2 (some .int) rm_X6_obey [.ref (b + k), .ref (b + h)] v (pI (scObey v k h).1 (scObey v k h).2) := by
  refine CT.introI [some (.ref (b + k)), some (.ref (b + h))] (own := RX6) (by decide +kernel) rfl rfl rfl rfl ?_
  intro p e s m args below meth c Q C hE
  refine r_aload_n C dX6_obey_0 rfl ?_
  refine gf_X6_43 C dX6_obey_1 hs.1 hs.k0 ?_
  by_cases s_97 : v k 3 = 97
  · skip
    refine r_lsw (y := 97) (off := 52) (tgt := 56) C dX6_obey_4 s_97 (by decide +kernel) rfl ?_
    refine r_aload_n C dX6_obey_56 rfl ?_
    refine r_aload_n C dX6_obey_57 rfl ?_
    refine gf_X6_15 C dX6_obey_58 hs.1 hs.k0 ?_
    refine r_iconst C dX6_obey_61 ic_0 ?_
    refine r_iald C dX6_obey_62 hs.2.2.1 (hs.k (by decide)) (j := 0) kn_0 (by omega) rfl ?_
    refine r_aload_n C dX6_obey_63 rfl ?_
    refine gf_X6_15 C dX6_obey_64 hs.1 hs.k0 ?_
    refine r_iconst C dX6_obey_67 ic_1 ?_
    refine r_iald C dX6_obey_68 hs.2.2.1 (hs.k (by decide)) (j := 1) kn_1 (by omega) rfl ?_
    refine cvI_X6_46 C dX6_obey_69 (c_X1_takeAlert h hh q hq hq6 _ _) hh.1 hh.k0 ⟨rfl, rfl⟩ rfl rfl rfl ?_
    exact hE _ _ _ _ dX6_obey_72 (by simp [pI, scObey, s_97])
  by_cases s_107 : v k 3 = 107
  · skip
    refine r_lsw (y := 107) (off := 69) (tgt := 73) C dX6_obey_4 s_107 (by decide +kernel) rfl ?_
    refine r_aload_n C dX6_obey_73 rfl ?_
    refine r_aload_n C dX6_obey_74 rfl ?_
    refine gf_X6_15 C dX6_obey_75 hs.1 hs.k0 ?_
    refine r_iconst C dX6_obey_78 ic_0 ?_
    refine r_iald C dX6_obey_79 hs.2.2.1 (hs.k (by decide)) (j := 0) kn_0 (by omega) rfl ?_
    refine cvI_X6_52 C dX6_obey_80 (c_X1_takeAcknowledgement h hh _) hh.1 hh.k0 ⟨rfl, rfl⟩ rfl rfl rfl ?_
    exact hE _ _ _ _ dX6_obey_83 (by simp [pI, scObey, s_97, s_107])
  by_cases s_111 : v k 3 = 111
  · skip
    refine r_lsw (y := 111) (off := 91) (tgt := 95) C dX6_obey_4 s_111 (by decide +kernel) rfl ?_
    refine r_aload_n C dX6_obey_95 rfl ?_
    refine r_aload_n C dX6_obey_96 rfl ?_
    refine gf_X6_15 C dX6_obey_97 hs.1 hs.k0 ?_
    refine r_iconst C dX6_obey_100 ic_0 ?_
    refine r_iald C dX6_obey_101 hs.2.2.1 (hs.k (by decide)) (j := 0) kn_0 (by omega) rfl ?_
    refine r_aload_n C dX6_obey_102 rfl ?_
    refine gf_X6_15 C dX6_obey_103 hs.1 hs.k0 ?_
    refine r_iconst C dX6_obey_106 ic_1 ?_
    refine r_iald C dX6_obey_107 hs.2.2.1 (hs.k (by decide)) (j := 1) kn_1 (by omega) rfl ?_
    refine r_aload_n C dX6_obey_108 rfl ?_
    refine gf_X6_15 C dX6_obey_109 hs.1 hs.k0 ?_
    refine r_iconst C dX6_obey_112 ic_2 ?_
    refine r_iald C dX6_obey_113 hs.2.2.1 (hs.k (by decide)) (j := 2) kn_2 (by omega) rfl ?_
    refine cvI_X6_58 C dX6_obey_114 (c_X1_putStandIn h hh _ _ _) hh.1 hh.k0 ⟨rfl, rfl⟩ rfl rfl rfl ?_
    exact hE _ _ _ _ dX6_obey_117 (by simp [pI, scObey, s_97, s_107, s_111])
  by_cases s_114 : v k 3 = 114
  · skip
    refine r_lsw (y := 114) (off := 80) (tgt := 84) C dX6_obey_4 s_114 (by decide +kernel) rfl ?_
    refine r_aload_n C dX6_obey_84 rfl ?_
    refine r_aload_n C dX6_obey_85 rfl ?_
    refine gf_X6_15 C dX6_obey_86 hs.1 hs.k0 ?_
    refine r_iconst C dX6_obey_89 ic_0 ?_
    refine r_iald C dX6_obey_90 hs.2.2.1 (hs.k (by decide)) (j := 0) kn_0 (by omega) rfl ?_
    refine cvI_X6_55 C dX6_obey_91 (c_X1_close h hh _) hh.1 hh.k0 ⟨rfl, rfl⟩ rfl rfl rfl ?_
    exact hE _ _ _ _ dX6_obey_94 (by simp [pI, scObey, s_97, s_107, s_111, s_114])
  by_cases s_116 : v k 3 = 116
  · skip
    refine r_lsw (y := 116) (off := 114) (tgt := 118) C dX6_obey_4 s_116 (by decide +kernel) rfl ?_
    refine r_aload_n C dX6_obey_118 rfl ?_
    refine r_aload_n C dX6_obey_119 rfl ?_
    refine gf_X6_15 C dX6_obey_120 hs.1 hs.k0 ?_
    refine r_iconst C dX6_obey_123 ic_0 ?_
    refine r_iald C dX6_obey_124 hs.2.2.1 (hs.k (by decide)) (j := 0) kn_0 (by omega) rfl ?_
    refine cvI_X6_62 C dX6_obey_125 (c_X1_letPass h hh q hq hq6 _) hh.1 hh.k0 ⟨rfl, rfl⟩ rfl rfl rfl ?_
    exact hE _ _ _ _ dX6_obey_128 (by simp [pI, scObey, s_97, s_107, s_111, s_114, s_116])
  refine r_lswd (tgt := 129) C dX6_obey_4 (by simp [Op.lookupswitch.offset, show ¬ Int32.toInt (v k 3) = 97 from i32_ne (y := 97) s_97, show ¬ 97 = Int32.toInt (v k 3) from fun z => i32_ne (y := 97) s_97 z.symm, show ¬ Int32.toInt (v k 3) = 107 from i32_ne (y := 107) s_107, show ¬ 107 = Int32.toInt (v k 3) from fun z => i32_ne (y := 107) s_107 z.symm, show ¬ Int32.toInt (v k 3) = 111 from i32_ne (y := 111) s_111, show ¬ 111 = Int32.toInt (v k 3) from fun z => i32_ne (y := 111) s_111 z.symm, show ¬ Int32.toInt (v k 3) = 114 from i32_ne (y := 114) s_114, show ¬ 114 = Int32.toInt (v k 3) from fun z => i32_ne (y := 114) s_114 z.symm, show ¬ Int32.toInt (v k 3) = 116 from i32_ne (y := 116) s_116, show ¬ 116 = Int32.toInt (v k 3) from fun z => i32_ne (y := 116) s_116 z.symm]) (by decide +kernel) rfl ?_
  refine r_iconst C dX6_obey_129 ic_m1 ?_
  exact hE _ _ _ _ dX6_obey_130 (by simp [pI, scObey, s_97, s_107, s_111, s_114, s_116])
