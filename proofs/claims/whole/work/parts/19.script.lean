set_option maxRecDepth 100000 in
set_option maxHeartbeats 4000000 in
theorem c_X6_readNumber {g : mG} {l : Launch} {tpl : mT} {b n : Nat} {v : mV} (k : Nat) (hs : isS g tpl b n k) (hC : chOK v k) (s0 : Nat) (hs0 : s0 ≤ 1000) (x y : Int32) : CT g l tpl b n yX6_readNumber cX6_readNumber 6 (some .int) rm_X6_readNumber [.ref (b + k), .int (nI s0), .int x, .int y] v (pI (scNum v k s0 x y).1 (scNum v k s0 x y).2) := by
  refine CT.introI [some (.ref (b + k)), some (.int (nI s0)), some (.int x), some (.int y), none, none] (own := RX6) (by decide +kernel) rfl rfl rfl rfl ?_
  intro p e s m args below meth c Q C hE
  refine r_iconst C dX6_readNumber_0 ic_0 ?_
  refine r_istore C dX6_readNumber_1 rfl rfl ?_
  refine r_iload_n C dX6_readNumber_3 rfl ?_
  refine r_istore C dX6_readNumber_4 rfl rfl ?_
  have loop_6 : ∀ (r : Nat) (a : Nat) (w : Int32), (a + r = s0 + 3) → (scDig v k r a w = scDig v k 3 s0 0) → WM g p l e rm_X6_readNumber s m args below meth c Q tpl b n v 6 [some (.ref (b + k)), some (.int (nI s0)), some (.int x), some (.int y), some (.int w), some (.int (nI a))] [] := by
    intro r
    induction r with
    | zero =>
      intro a w ha hR
      refine r_iload C dX6_readNumber_6 rfl ?_
      refine r_iload_n C dX6_readNumber_8 rfl ?_
      refine r_iconst C dX6_readNumber_9 ic_3 ?_
      refine r_iadd C dX6_readNumber_10 ?_
      refine r_icmp_ge (tgt := 49) C dX6_readNumber_11 rfl (fun c_11 => ?_) (fun c_11 => ?_)
      · skip
        have hD : scDig v k 3 s0 0 = (a, w) := by first | (rw [← hR, scDig]; done) | (rw [← hR, scDig, if_pos c_23]; done)
        refine r_iload C dX6_readNumber_49 rfl ?_
        refine r_iload_n C dX6_readNumber_51 rfl ?_
        refine r_icmp_eq (tgt := 78) C dX6_readNumber_52 rfl (fun c_52 => ?_) (fun c_52 => ?_)
        · skip
          have e1 : a = s0 := (na_eq rfl rfl (by omega) (by omega)).mp c_52
          refine r_iconst C dX6_readNumber_78 ic_m1 ?_
          exact hE _ _ _ _ dX6_readNumber_79 (by simp [pI, scNum, hD, e1, c_11, c_52])
        · skip
          have e1 : ¬ a = s0 := fun z => c_52 (by rw [z])
          refine r_aload_n C dX6_readNumber_55 rfl ?_
          refine r_iload C dX6_readNumber_56 rfl ?_
          refine cvI_X6_65 C dX6_readNumber_58 (c_X6_signAt k hs hC _) hs.1 hs.k0 ⟨rfl, rfl⟩ rfl rfl rfl ?_
          refine r_iload_n C dX6_readNumber_61 rfl ?_
          refine r_icmp_ne (tgt := 78) C dX6_readNumber_62 rfl (fun c_62 => ?_) (fun c_62 => ?_)
          · skip
            refine r_iconst C dX6_readNumber_78 ic_m1 ?_
            exact hE _ _ _ _ dX6_readNumber_79 (by simp [pI, scNum, hD, e1, c_11, c_52, c_62])
          · skip
            refine r_iload_n C dX6_readNumber_65 rfl ?_
            refine r_if_lt (tgt := 78) C dX6_readNumber_66 rfl (fun c_66 => ?_) (fun c_66 => ?_)
            · skip
              refine r_iconst C dX6_readNumber_78 ic_m1 ?_
              exact hE _ _ _ _ dX6_readNumber_79 (by simp [pI, scNum, hD, e1, c_11, c_52, c_62, c_66])
            · skip
              refine r_iload_n C dX6_readNumber_69 rfl ?_
              refine r_aload_n C dX6_readNumber_70 rfl ?_
              refine gf_X6_15 C dX6_readNumber_71 hs.1 hs.k0 ?_
              refine r_alen C dX6_readNumber_74 hs.2.2.1 rfl (hs.k (by decide)) kn_3.symm ?_
              refine r_icmp_lt (tgt := 80) C dX6_readNumber_75 rfl (fun c_75 => ?_) (fun c_75 => ?_)
              · skip
                obtain ⟨j, hj, rfl⟩ := na_of kn_3 (by decide) c_66 c_75
                have nc : (nI j).toNatClampNeg = j := nI_clamp (by omega)
                refine r_aload_n C dX6_readNumber_80 rfl ?_
                refine gf_X6_15 C dX6_readNumber_81 hs.1 hs.k0 ?_
                refine r_iload_n C dX6_readNumber_84 rfl ?_
                refine r_iload C dX6_readNumber_85 rfl ?_
                refine r_iast C dX6_readNumber_87 hs.2.2.1 (hs.k (by decide)) (j := j) rfl hj rfl ?_
                refine r_iload C dX6_readNumber_88 rfl ?_
                refine r_iconst C dX6_readNumber_90 ic_1 ?_
                refine r_iadd C dX6_readNumber_91 ?_
                exact hE _ _ _ _ dX6_readNumber_92 (by simp [pI, scNum, hD, e1, c_11, c_52, c_62, c_66, c_75, nc, nI_1])
              · skip
                refine r_iconst C dX6_readNumber_78 ic_m1 ?_
                exact hE _ _ _ _ dX6_readNumber_79 (by simp [pI, scNum, hD, e1, c_11, c_52, c_62, c_66, c_75])
      · exact absurd c_11 (by rw [na_add rfl kn_3]; exact nI_nlt (by omega) (by omega))
    | succ r ih_6 =>
      intro a w ha hR
      refine r_iload C dX6_readNumber_6 rfl ?_
      refine r_iload_n C dX6_readNumber_8 rfl ?_
      refine r_iconst C dX6_readNumber_9 ic_3 ?_
      refine r_iadd C dX6_readNumber_10 ?_
      refine r_icmp_ge (tgt := 49) C dX6_readNumber_11 rfl (fun c_11 => ?_) (fun c_11 => ?_)
      · exact absurd (by rw [na_add rfl kn_3]; exact nI_lt (by omega) (by omega)) c_11
      · skip
        refine r_aload_n C dX6_readNumber_14 rfl ?_
        refine r_iload C dX6_readNumber_15 rfl ?_
        refine cvI_X6_65 C dX6_readNumber_17 (c_X6_signAt k hs hC _) hs.1 hs.k0 ⟨rfl, rfl⟩ rfl rfl rfl ?_
        refine cvI_X6_76 C dX6_readNumber_20 (c_X6_isDigit _) ⟨rfl, rfl⟩ rfl rfl rfl ?_
        refine r_if_eq (tgt := 49) C dX6_readNumber_23 rfl (fun c_23 => ?_) (fun c_23 => ?_)
        · skip
          have hD : scDig v k 3 s0 0 = (a, w) := by first | (rw [← hR, scDig]; done) | (rw [← hR, scDig, if_pos c_23]; done)
          refine r_iload C dX6_readNumber_49 rfl ?_
          refine r_iload_n C dX6_readNumber_51 rfl ?_
          refine r_icmp_eq (tgt := 78) C dX6_readNumber_52 rfl (fun c_52 => ?_) (fun c_52 => ?_)
          · skip
            have e1 : a = s0 := (na_eq rfl rfl (by omega) (by omega)).mp c_52
            refine r_iconst C dX6_readNumber_78 ic_m1 ?_
            exact hE _ _ _ _ dX6_readNumber_79 (by simp [pI, scNum, hD, e1, c_11, c_23, c_52])
          · skip
            have e1 : ¬ a = s0 := fun z => c_52 (by rw [z])
            refine r_aload_n C dX6_readNumber_55 rfl ?_
            refine r_iload C dX6_readNumber_56 rfl ?_
            refine cvI_X6_65 C dX6_readNumber_58 (c_X6_signAt k hs hC _) hs.1 hs.k0 ⟨rfl, rfl⟩ rfl rfl rfl ?_
            refine r_iload_n C dX6_readNumber_61 rfl ?_
            refine r_icmp_ne (tgt := 78) C dX6_readNumber_62 rfl (fun c_62 => ?_) (fun c_62 => ?_)
            · skip
              refine r_iconst C dX6_readNumber_78 ic_m1 ?_
              exact hE _ _ _ _ dX6_readNumber_79 (by simp [pI, scNum, hD, e1, c_11, c_23, c_52, c_62])
            · skip
              refine r_iload_n C dX6_readNumber_65 rfl ?_
              refine r_if_lt (tgt := 78) C dX6_readNumber_66 rfl (fun c_66 => ?_) (fun c_66 => ?_)
              · skip
                refine r_iconst C dX6_readNumber_78 ic_m1 ?_
                exact hE _ _ _ _ dX6_readNumber_79 (by simp [pI, scNum, hD, e1, c_11, c_23, c_52, c_62, c_66])
              · skip
                refine r_iload_n C dX6_readNumber_69 rfl ?_
                refine r_aload_n C dX6_readNumber_70 rfl ?_
                refine gf_X6_15 C dX6_readNumber_71 hs.1 hs.k0 ?_
                refine r_alen C dX6_readNumber_74 hs.2.2.1 rfl (hs.k (by decide)) kn_3.symm ?_
                refine r_icmp_lt (tgt := 80) C dX6_readNumber_75 rfl (fun c_75 => ?_) (fun c_75 => ?_)
                · skip
                  obtain ⟨j, hj, rfl⟩ := na_of kn_3 (by decide) c_66 c_75
                  have nc : (nI j).toNatClampNeg = j := nI_clamp (by omega)
                  refine r_aload_n C dX6_readNumber_80 rfl ?_
                  refine gf_X6_15 C dX6_readNumber_81 hs.1 hs.k0 ?_
                  refine r_iload_n C dX6_readNumber_84 rfl ?_
                  refine r_iload C dX6_readNumber_85 rfl ?_
                  refine r_iast C dX6_readNumber_87 hs.2.2.1 (hs.k (by decide)) (j := j) rfl hj rfl ?_
                  refine r_iload C dX6_readNumber_88 rfl ?_
                  refine r_iconst C dX6_readNumber_90 ic_1 ?_
                  refine r_iadd C dX6_readNumber_91 ?_
                  exact hE _ _ _ _ dX6_readNumber_92 (by simp [pI, scNum, hD, e1, c_11, c_23, c_52, c_62, c_66, c_75, nc, nI_1])
                · skip
                  refine r_iconst C dX6_readNumber_78 ic_m1 ?_
                  exact hE _ _ _ _ dX6_readNumber_79 (by simp [pI, scNum, hD, e1, c_11, c_23, c_52, c_62, c_66, c_75])
        · skip
          refine r_iload C dX6_readNumber_26 rfl ?_
          refine r_bipush C dX6_readNumber_28 bp_10 ?_
          refine r_imul C dX6_readNumber_30 ?_
          refine r_aload_n C dX6_readNumber_31 rfl ?_
          refine r_iload C dX6_readNumber_32 rfl ?_
          refine cvI_X6_65 C dX6_readNumber_34 (c_X6_signAt k hs hC _) hs.1 hs.k0 ⟨rfl, rfl⟩ rfl rfl rfl ?_
          refine r_bipush C dX6_readNumber_37 bp_48 ?_
          refine r_isub C dX6_readNumber_39 ?_
          refine r_iadd C dX6_readNumber_40 ?_
          refine r_istore C dX6_readNumber_41 rfl rfl ?_
          refine r_iinc C dX6_readNumber_43 rfl (nI_inc _) rfl ?_
          refine r_goto (tgt := 6) C dX6_readNumber_46 rfl ?_
          exact ih_6 (a + 1) _ (by omega) (by rw [← hR]; simp [scDig, c_11, c_23])
  exact loop_6 3 s0 0 rfl rfl
