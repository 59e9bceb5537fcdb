set_option maxRecDepth 100000 in
set_option maxHeartbeats 4000000 in
theorem c_X11_acted {g : mG} {l : Launch} {tpl : mT} {b n : Nat} {v : mV} (hm : isM g tpl b n) (st : Nat) (hst : v 0 4 = nI st) (hst4 : st ≤ 4) (x : Int32) : CT g l tpl b n yX11_acted cX11_acted 3 (some .int) rm_X11_acted [.ref (b + 0), .int x] v (pI x (if x < 0 then v else mAct v st)) := by
  refine CT.introI [some (.ref (b + 0)), some (.int x), none] (own := RX11) (by decide +kernel) rfl rfl rfl rfl ?_
  intro p e s m args below meth c Q C hE
  refine r_iload_n C dX11_acted_0 rfl ?_
  refine r_if_ge (tgt := 6) C dX11_acted_1 rfl (fun c_1 => ?_) (fun c_1 => ?_)
  · skip
    refine r_aload_n C dX11_acted_6 rfl ?_
    refine gf_X11_28 C dX11_acted_7 hm.1 (hm.k (by decide)) ?_
    refine r_iconst C dX11_acted_10 ic_4 ?_
    refine r_icmp_ne (tgt := 55) C dX11_acted_11 rfl (fun c_11 => ?_) (fun c_11 => ?_)
    · skip
      have loop_55 : ∀ (r : Nat) (w : mV) (s1 : Nat) (z : Option Value), (w 0 4 = nI s1) → (s1 ≤ 3) → (mAct1 w s1 = mAct v st) → WM g p l e rm_X11_acted s m args below meth c Q tpl b n w 55 [some (.ref (b + 0)), some (.int x), z] [] := by
        intro r
        induction r with
        | zero =>
          intro w s1 z hw hs1 hA
          rw [← fB_0 (v := w) (s1 := s1)]
          refine r_iconst C dX11_acted_55 ic_0 ?_
          refine r_istore_n C dX11_acted_56 rfl rfl ?_
          have loop_57 : ∀ (r : Nat) (k : Nat), (k + r = 229) → WM g p l e rm_X11_acted s m args below meth c Q tpl b n (cpR w 4 (fB w s1 k)) 57 [some (.ref (b + 0)), some (.int x), some (.int (nI k))] [] := by
            intro r
            induction r with
            | zero =>
              intro k hk
              refine r_iload_n C dX11_acted_57 rfl ?_
              refine r_sipush C dX11_acted_58 sp_229 ?_
              refine r_icmp_ge (tgt := 91) C dX11_acted_61 rfl (fun c_61 => ?_) (fun c_61 => ?_)
              · skip
                rw [show k = 229 by omega]
                refine r_aload_n C dX11_acted_91 rfl ?_
                refine r_dup C dX11_acted_92 rfl ?_
                refine gf_X11_28 C dX11_acted_93 hm.1 (hm.k (by decide)) ?_
                refine r_iconst C dX11_acted_96 ic_1 ?_
                skip
                refine r_iadd C dX11_acted_97 ?_
                rw [show (cpR w 4 (fB w s1 229) 0 4 + 1) = nI (s1 + 1) by rw [cpR_o (by omega), hw]; exact nI_1 s1]
                refine pf_X11_28 C dX11_acted_98 hm.1 (hm.k (by decide)) ?_
                refine r_iload_n C dX11_acted_101 rfl ?_
                exact hE _ _ _ _ dX11_acted_102 (And.intro rfl (by rw [if_neg c_1, ← hA]; rfl))
              · exact absurd c_61 (nI_nlt (a := k) (b := 229) (by omega) (by omega))
            | succ r ih_57 =>
              intro k hk
              refine r_iload_n C dX11_acted_57 rfl ?_
              refine r_sipush C dX11_acted_58 sp_229 ?_
              refine r_icmp_ge (tgt := 91) C dX11_acted_61 rfl (fun c_61 => ?_) (fun c_61 => ?_)
              · exact absurd (nI_lt (a := k) (b := 229) (by omega) (by omega)) c_61
              · skip
                refine r_aload_n C dX11_acted_64 rfl ?_
                refine gf_X11_19 C dX11_acted_65 hm.1 (hm.k (by decide)) ?_
                refine r_sipush C dX11_acted_68 sp_229 ?_
                refine r_aload_n C dX11_acted_71 rfl ?_
                refine gf_X11_28 C dX11_acted_72 hm.1 (hm.k (by decide)) ?_
                refine r_imul C dX11_acted_75 ?_
                refine r_iload_n C dX11_acted_76 rfl ?_
                refine r_iadd C dX11_acted_77 ?_
                refine r_aload_n C dX11_acted_78 rfl ?_
                refine gf_X11_13 C dX11_acted_79 hm.1 (hm.k (by decide)) ?_
                refine r_iload_n C dX11_acted_82 rfl ?_
                refine r_iald C dX11_acted_83 hm.2.2.1 (hm.k (by decide)) (j := k) rfl (by omega) rfl ?_
                refine r_iast C dX11_acted_84 hm.2.2.2.2.1 (hm.k (by decide)) (j := ((229 * s1) + k)) (na_add (na_mul kn_229 (by rw [cpR_o (by omega)]; exact hw)) rfl) (by omega) rfl ?_
                rw [show (cpR w 4 (fB w s1 k) 2 k) = w 2 k from rfl, fB_s]
                refine r_iinc C dX11_acted_85 rfl (nI_inc _) rfl ?_
                refine r_goto (tgt := 57) C dX11_acted_88 rfl ?_
                exact ih_57 (k + 1) (by omega)
          exact loop_57 229 0 rfl
        | succ r ih_55 =>
          intro w s1 z hw hs1 hA
          rw [← fB_0 (v := w) (s1 := s1)]
          refine r_iconst C dX11_acted_55 ic_0 ?_
          refine r_istore_n C dX11_acted_56 rfl rfl ?_
          have loop_57 : ∀ (r : Nat) (k : Nat), (k + r = 229) → WM g p l e rm_X11_acted s m args below meth c Q tpl b n (cpR w 4 (fB w s1 k)) 57 [some (.ref (b + 0)), some (.int x), some (.int (nI k))] [] := by
            intro r
            induction r with
            | zero =>
              intro k hk
              refine r_iload_n C dX11_acted_57 rfl ?_
              refine r_sipush C dX11_acted_58 sp_229 ?_
              refine r_icmp_ge (tgt := 91) C dX11_acted_61 rfl (fun c_61 => ?_) (fun c_61 => ?_)
              · skip
                rw [show k = 229 by omega]
                refine r_aload_n C dX11_acted_91 rfl ?_
                refine r_dup C dX11_acted_92 rfl ?_
                refine gf_X11_28 C dX11_acted_93 hm.1 (hm.k (by decide)) ?_
                refine r_iconst C dX11_acted_96 ic_1 ?_
                skip
                refine r_iadd C dX11_acted_97 ?_
                rw [show (cpR w 4 (fB w s1 229) 0 4 + 1) = nI (s1 + 1) by rw [cpR_o (by omega), hw]; exact nI_1 s1]
                refine pf_X11_28 C dX11_acted_98 hm.1 (hm.k (by decide)) ?_
                refine r_iload_n C dX11_acted_101 rfl ?_
                exact hE _ _ _ _ dX11_acted_102 (And.intro rfl (by rw [if_neg c_1, ← hA]; rfl))
              · exact absurd c_61 (nI_nlt (a := k) (b := 229) (by omega) (by omega))
            | succ r ih_57 =>
              intro k hk
              refine r_iload_n C dX11_acted_57 rfl ?_
              refine r_sipush C dX11_acted_58 sp_229 ?_
              refine r_icmp_ge (tgt := 91) C dX11_acted_61 rfl (fun c_61 => ?_) (fun c_61 => ?_)
              · exact absurd (nI_lt (a := k) (b := 229) (by omega) (by omega)) c_61
              · skip
                refine r_aload_n C dX11_acted_64 rfl ?_
                refine gf_X11_19 C dX11_acted_65 hm.1 (hm.k (by decide)) ?_
                refine r_sipush C dX11_acted_68 sp_229 ?_
                refine r_aload_n C dX11_acted_71 rfl ?_
                refine gf_X11_28 C dX11_acted_72 hm.1 (hm.k (by decide)) ?_
                refine r_imul C dX11_acted_75 ?_
                refine r_iload_n C dX11_acted_76 rfl ?_
                refine r_iadd C dX11_acted_77 ?_
                refine r_aload_n C dX11_acted_78 rfl ?_
                refine gf_X11_13 C dX11_acted_79 hm.1 (hm.k (by decide)) ?_
                refine r_iload_n C dX11_acted_82 rfl ?_
                refine r_iald C dX11_acted_83 hm.2.2.1 (hm.k (by decide)) (j := k) rfl (by omega) rfl ?_
                refine r_iast C dX11_acted_84 hm.2.2.2.2.1 (hm.k (by decide)) (j := ((229 * s1) + k)) (na_add (na_mul kn_229 (by rw [cpR_o (by omega)]; exact hw)) rfl) (by omega) rfl ?_
                rw [show (cpR w 4 (fB w s1 k) 2 k) = w 2 k from rfl, fB_s]
                refine r_iinc C dX11_acted_85 rfl (nI_inc _) rfl ?_
                refine r_goto (tgt := 57) C dX11_acted_88 rfl ?_
                exact ih_57 (k + 1) (by omega)
          exact loop_57 229 0 rfl
      exact loop_55 0 v st _ hst (by by_cases h4 : st = 4; exact absurd (by rw [hst, h4]; exact kn_4.symm) c_11; omega) (by rw [mAct, if_neg (fun h4 => c_11 (by rw [hst, h4]; exact kn_4.symm))])
    · skip
      have e4 : st = 4 := (na_eq hst kn_4 (by omega) (by omega)).mp c_11
      rw [← fA_0 (v := v)]
      refine r_iconst C dX11_acted_14 ic_0 ?_
      refine r_istore_n C dX11_acted_15 rfl rfl ?_
      have loop_16 : ∀ (r : Nat) (k : Nat), (k + r = 687) → WM g p l e rm_X11_acted s m args below meth c Q tpl b n (cpR v 4 (fA v k)) 16 [some (.ref (b + 0)), some (.int x), some (.int (nI k))] [] := by
        intro r
        induction r with
        | zero =>
          intro k hk
          refine r_iload_n C dX11_acted_16 rfl ?_
          refine r_sipush C dX11_acted_17 sp_687 ?_
          refine r_icmp_ge (tgt := 45) C dX11_acted_20 rfl (fun c_20 => ?_) (fun c_20 => ?_)
          · skip
            rw [show k = 687 by omega]
            refine r_aload_n C dX11_acted_45 rfl ?_
            refine r_dup C dX11_acted_46 rfl ?_
            refine gf_X11_28 C dX11_acted_47 hm.1 (hm.k (by decide)) ?_
            refine r_iconst C dX11_acted_50 ic_1 ?_
            refine r_isub C dX11_acted_51 ?_
            rw [show (cpR v 4 (fA v 687) 0 4 - 1) = nI 3 by rw [cpR_o (by omega), hst, e4]; exact nI_pred 3]
            refine pf_X11_28 C dX11_acted_52 hm.1 (hm.k (by decide)) ?_
            have loop_55 : ∀ (r : Nat) (w : mV) (s1 : Nat) (z : Option Value), (w 0 4 = nI s1) → (s1 ≤ 3) → (mAct1 w s1 = mAct v st) → WM g p l e rm_X11_acted s m args below meth c Q tpl b n w 55 [some (.ref (b + 0)), some (.int x), z] [] := by
              intro r
              induction r with
              | zero =>
                intro w s1 z hw hs1 hA
                rw [← fB_0 (v := w) (s1 := s1)]
                refine r_iconst C dX11_acted_55 ic_0 ?_
                refine r_istore_n C dX11_acted_56 rfl rfl ?_
                have loop_57 : ∀ (r : Nat) (k : Nat), (k + r = 229) → WM g p l e rm_X11_acted s m args below meth c Q tpl b n (cpR w 4 (fB w s1 k)) 57 [some (.ref (b + 0)), some (.int x), some (.int (nI k))] [] := by
                  intro r
                  induction r with
                  | zero =>
                    intro k hk
                    refine r_iload_n C dX11_acted_57 rfl ?_
                    refine r_sipush C dX11_acted_58 sp_229 ?_
                    refine r_icmp_ge (tgt := 91) C dX11_acted_61 rfl (fun c_61 => ?_) (fun c_61 => ?_)
                    · skip
                      rw [show k = 229 by omega]
                      refine r_aload_n C dX11_acted_91 rfl ?_
                      refine r_dup C dX11_acted_92 rfl ?_
                      refine gf_X11_28 C dX11_acted_93 hm.1 (hm.k (by decide)) ?_
                      refine r_iconst C dX11_acted_96 ic_1 ?_
                      skip
                      refine r_iadd C dX11_acted_97 ?_
                      rw [show (cpR w 4 (fB w s1 229) 0 4 + 1) = nI (s1 + 1) by rw [cpR_o (by omega), hw]; exact nI_1 s1]
                      refine pf_X11_28 C dX11_acted_98 hm.1 (hm.k (by decide)) ?_
                      refine r_iload_n C dX11_acted_101 rfl ?_
                      exact hE _ _ _ _ dX11_acted_102 (And.intro rfl (by rw [if_neg c_1, ← hA]; rfl))
                    · exact absurd c_61 (nI_nlt (a := k) (b := 229) (by omega) (by omega))
                  | succ r ih_57 =>
                    intro k hk
                    refine r_iload_n C dX11_acted_57 rfl ?_
                    refine r_sipush C dX11_acted_58 sp_229 ?_
                    refine r_icmp_ge (tgt := 91) C dX11_acted_61 rfl (fun c_61 => ?_) (fun c_61 => ?_)
                    · exact absurd (nI_lt (a := k) (b := 229) (by omega) (by omega)) c_61
                    · skip
                      refine r_aload_n C dX11_acted_64 rfl ?_
                      refine gf_X11_19 C dX11_acted_65 hm.1 (hm.k (by decide)) ?_
                      refine r_sipush C dX11_acted_68 sp_229 ?_
                      refine r_aload_n C dX11_acted_71 rfl ?_
                      refine gf_X11_28 C dX11_acted_72 hm.1 (hm.k (by decide)) ?_
                      refine r_imul C dX11_acted_75 ?_
                      refine r_iload_n C dX11_acted_76 rfl ?_
                      refine r_iadd C dX11_acted_77 ?_
                      refine r_aload_n C dX11_acted_78 rfl ?_
                      refine gf_X11_13 C dX11_acted_79 hm.1 (hm.k (by decide)) ?_
                      refine r_iload_n C dX11_acted_82 rfl ?_
                      refine r_iald C dX11_acted_83 hm.2.2.1 (hm.k (by decide)) (j := k) rfl (by omega) rfl ?_
                      refine r_iast C dX11_acted_84 hm.2.2.2.2.1 (hm.k (by decide)) (j := ((229 * s1) + k)) (na_add (na_mul kn_229 (by rw [cpR_o (by omega)]; exact hw)) rfl) (by omega) rfl ?_
                      rw [show (cpR w 4 (fB w s1 k) 2 k) = w 2 k from rfl, fB_s]
                      refine r_iinc C dX11_acted_85 rfl (nI_inc _) rfl ?_
                      refine r_goto (tgt := 57) C dX11_acted_88 rfl ?_
                      exact ih_57 (k + 1) (by omega)
                exact loop_57 229 0 rfl
              | succ r ih_55 =>
                intro w s1 z hw hs1 hA
                rw [← fB_0 (v := w) (s1 := s1)]
                refine r_iconst C dX11_acted_55 ic_0 ?_
                refine r_istore_n C dX11_acted_56 rfl rfl ?_
                have loop_57 : ∀ (r : Nat) (k : Nat), (k + r = 229) → WM g p l e rm_X11_acted s m args below meth c Q tpl b n (cpR w 4 (fB w s1 k)) 57 [some (.ref (b + 0)), some (.int x), some (.int (nI k))] [] := by
                  intro r
                  induction r with
                  | zero =>
                    intro k hk
                    refine r_iload_n C dX11_acted_57 rfl ?_
                    refine r_sipush C dX11_acted_58 sp_229 ?_
                    refine r_icmp_ge (tgt := 91) C dX11_acted_61 rfl (fun c_61 => ?_) (fun c_61 => ?_)
                    · skip
                      rw [show k = 229 by omega]
                      refine r_aload_n C dX11_acted_91 rfl ?_
                      refine r_dup C dX11_acted_92 rfl ?_
                      refine gf_X11_28 C dX11_acted_93 hm.1 (hm.k (by decide)) ?_
                      refine r_iconst C dX11_acted_96 ic_1 ?_
                      skip
                      refine r_iadd C dX11_acted_97 ?_
                      rw [show (cpR w 4 (fB w s1 229) 0 4 + 1) = nI (s1 + 1) by rw [cpR_o (by omega), hw]; exact nI_1 s1]
                      refine pf_X11_28 C dX11_acted_98 hm.1 (hm.k (by decide)) ?_
                      refine r_iload_n C dX11_acted_101 rfl ?_
                      exact hE _ _ _ _ dX11_acted_102 (And.intro rfl (by rw [if_neg c_1, ← hA]; rfl))
                    · exact absurd c_61 (nI_nlt (a := k) (b := 229) (by omega) (by omega))
                  | succ r ih_57 =>
                    intro k hk
                    refine r_iload_n C dX11_acted_57 rfl ?_
                    refine r_sipush C dX11_acted_58 sp_229 ?_
                    refine r_icmp_ge (tgt := 91) C dX11_acted_61 rfl (fun c_61 => ?_) (fun c_61 => ?_)
                    · exact absurd (nI_lt (a := k) (b := 229) (by omega) (by omega)) c_61
                    · skip
                      refine r_aload_n C dX11_acted_64 rfl ?_
                      refine gf_X11_19 C dX11_acted_65 hm.1 (hm.k (by decide)) ?_
                      refine r_sipush C dX11_acted_68 sp_229 ?_
                      refine r_aload_n C dX11_acted_71 rfl ?_
                      refine gf_X11_28 C dX11_acted_72 hm.1 (hm.k (by decide)) ?_
                      refine r_imul C dX11_acted_75 ?_
                      refine r_iload_n C dX11_acted_76 rfl ?_
                      refine r_iadd C dX11_acted_77 ?_
                      refine r_aload_n C dX11_acted_78 rfl ?_
                      refine gf_X11_13 C dX11_acted_79 hm.1 (hm.k (by decide)) ?_
                      refine r_iload_n C dX11_acted_82 rfl ?_
                      refine r_iald C dX11_acted_83 hm.2.2.1 (hm.k (by decide)) (j := k) rfl (by omega) rfl ?_
                      refine r_iast C dX11_acted_84 hm.2.2.2.2.1 (hm.k (by decide)) (j := ((229 * s1) + k)) (na_add (na_mul kn_229 (by rw [cpR_o (by omega)]; exact hw)) rfl) (by omega) rfl ?_
                      rw [show (cpR w 4 (fB w s1 k) 2 k) = w 2 k from rfl, fB_s]
                      refine r_iinc C dX11_acted_85 rfl (nI_inc _) rfl ?_
                      refine r_goto (tgt := 57) C dX11_acted_88 rfl ?_
                      exact ih_57 (k + 1) (by omega)
                exact loop_57 229 0 rfl
            exact loop_55 0 _ 3 _ (by rw [u2_r, upd_r]) (by omega) (by rw [mAct, if_pos e4])
          · exact absurd c_20 (nI_nlt (a := k) (b := 687) (by omega) (by omega))
        | succ r ih_16 =>
          intro k hk
          refine r_iload_n C dX11_acted_16 rfl ?_
          refine r_sipush C dX11_acted_17 sp_687 ?_
          refine r_icmp_ge (tgt := 45) C dX11_acted_20 rfl (fun c_20 => ?_) (fun c_20 => ?_)
          · exact absurd (nI_lt (a := k) (b := 687) (by omega) (by omega)) c_20
          · skip
            refine r_aload_n C dX11_acted_23 rfl ?_
            refine gf_X11_19 C dX11_acted_24 hm.1 (hm.k (by decide)) ?_
            refine r_iload_n C dX11_acted_27 rfl ?_
            refine r_aload_n C dX11_acted_28 rfl ?_
            refine gf_X11_19 C dX11_acted_29 hm.1 (hm.k (by decide)) ?_
            refine r_iload_n C dX11_acted_32 rfl ?_
            refine r_sipush C dX11_acted_33 sp_229 ?_
            refine r_iadd C dX11_acted_36 ?_
            refine r_iald C dX11_acted_37 hm.2.2.2.2.1 (hm.k (by decide)) (j := (k + 229)) (na_add rfl kn_229) (by omega) rfl ?_
            refine r_iast C dX11_acted_38 hm.2.2.2.2.1 (hm.k (by decide)) (j := k) rfl (by omega) rfl ?_
            rw [fA_s]
            refine r_iinc C dX11_acted_39 rfl (nI_inc _) rfl ?_
            refine r_goto (tgt := 16) C dX11_acted_42 rfl ?_
            exact ih_16 (k + 1) (by omega)
      exact loop_16 687 0 rfl
  · skip
    refine r_iload_n C dX11_acted_4 rfl ?_
    exact hE _ _ _ _ dX11_acted_5 (And.intro rfl (by rw [if_pos c_1]))
