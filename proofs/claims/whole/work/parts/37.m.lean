set_option maxRecDepth 100000 in
set_option maxHeartbeats 4000000 in
theorem c_X11_leaves {g : mG} {l : Launch} {tpl : mT} {b n : Nat} {v : mV} {σ : Nat → Int32} (hm : isM g tpl b n) (hI : MI σ) (x y : Int32) : CT g l tpl b n yX11_leaves cX11_leaves 6 (some .int) rm_X11_leaves [.ref (b + 0), .int x, .int y] (sv v σ) (pI (mLeaves σ x y).1 (sv v (mLeaves σ x y).2)) := by
  refine CT.introI [some (.ref (b + 0)), some (.int x), some (.int y), none, none, none] (own := RX11) (by decide +kernel) rfl rfl rfl rfl ?_
  intro p e s m args below meth c Q C hE
  refine r_aload_n C dX11_leaves_0 rfl ?_
  refine r_iload_n C dX11_leaves_1 rfl ?_
  refine cvI_X11_77 C dX11_leaves_2 (c_X11_isRegion hm _) hm.1 (hm.k (by decide)) ⟨rfl, rfl⟩ rfl rfl rfl ?_
  refine r_if_eq (tgt := 16) C dX11_leaves_5 rfl (fun c_5 => ?_) (fun c_5 => ?_)
  · skip
    refine r_iconst C dX11_leaves_16 ic_m1 ?_
    exact hE _ _ _ _ dX11_leaves_17 (by simp (disch := omega) [pI, pV, mLeaves, c_5, upd_o, upd_r])
  · skip
    obtain ⟨j, hj, rfl⟩ := mIn_R hI c_5
    have nc : (nI j).toNatClampNeg = j := nI_clamp (by omega)
    refine r_aload_n C dX11_leaves_8 rfl ?_
    refine r_iload_n C dX11_leaves_9 rfl ?_
    refine cvI_X11_80 C dX11_leaves_10 (c_X11_isPerson hm _) hm.1 (hm.k (by decide)) ⟨rfl, rfl⟩ rfl rfl rfl ?_
    refine r_if_ne (tgt := 18) C dX11_leaves_13 rfl (fun c_13 => ?_) (fun c_13 => ?_)
    · skip
      obtain ⟨m0, hm5, em⟩ := hI.2.2.2.2.1 j hj
      have nm : (σ (56 + 9 * j + 3)).toNatClampNeg = m0 := by rw [em]; exact nI_clamp (by omega)
      refine r_aload_n C dX11_leaves_18 rfl ?_
      refine r_iload_n C dX11_leaves_19 rfl ?_
      refine r_iload_n C dX11_leaves_20 rfl ?_
      refine cvI_X11_83 C dX11_leaves_21 (c_X11_placeIn hm _ _ j m0 rfl hj hm5 em) hm.1 (hm.k (by decide)) ⟨rfl, rfl⟩ rfl rfl rfl ?_
      refine r_istore_n C dX11_leaves_24 rfl rfl ?_
      refine r_iload_n C dX11_leaves_25 rfl ?_
      refine r_if_ge (tgt := 32) C dX11_leaves_26 rfl (fun c_26 => ?_) (fun c_26 => ?_)
      · skip
        obtain ⟨q, hq, eq⟩ := mPlaceIn_of hm5 em c_26
        have nq : (mPlaceIn σ j y).toNatClampNeg = q := by rw [eq]; exact nI_clamp (by omega)
        have em1 : nI m0 - 1 = nI (m0 - 1) := by rw [show m0 = m0 - 1 + 1 by omega, nI_pred, Nat.add_sub_cancel]
        have hL : mLeaves σ (nI j) y = (σ (56 + 9 * j + 3) - 1, mShLp j (m0 - 1 - q) q (upd σ (56 + 9 * j + 3) (σ (56 + 9 * j + 3) - 1))) := by rw [mLeaves, if_neg c_5, if_neg c_13, nc, if_neg c_26, nm, nq]
        rw [eq]
        refine r_bipush C dX11_leaves_32 bp_56 ?_
        refine r_bipush C dX11_leaves_34 bp_9 ?_
        refine r_iload_n C dX11_leaves_36 rfl ?_
        refine r_imul C dX11_leaves_37 ?_
        refine r_iadd C dX11_leaves_38 ?_
        refine r_istore C dX11_leaves_39 rfl rfl ?_
        refine r_aload_n C dX11_leaves_41 rfl ?_
        refine gf_X11_7 C dX11_leaves_42 hm.1 (hm.k (by decide)) ?_
        refine r_iload C dX11_leaves_45 rfl ?_
        refine r_iconst C dX11_leaves_47 ic_3 ?_
        refine r_iadd C dX11_leaves_48 ?_
        refine r_dup2 C dX11_leaves_49 rfl rfl ?_
        refine r_sld C dX11_leaves_50 hm (j := ((56 + (9 * j)) + 3)) (na_add (na_add kn_56 (na_mul kn_9 rfl)) kn_3) (by omega) ?_
        refine r_iconst C dX11_leaves_51 ic_1 ?_
        refine r_isub C dX11_leaves_52 ?_
        refine r_sst C dX11_leaves_53 hm (j := ((56 + (9 * j)) + 3)) (na_add (na_add kn_56 (na_mul kn_9 rfl)) kn_3) (by omega) ?_
        refine r_iload_n C dX11_leaves_54 rfl ?_
        refine r_istore C dX11_leaves_55 rfl rfl ?_
        have loop_57 : ∀ (r : Nat) (k : Nat) (τ : Nat → Int32), (k + r = m0 - 1) → (q ≤ k) → (τ (56 + 9 * j + 3) = nI (m0 - 1)) → (mShLp j r k τ = mShLp j (m0 - 1 - q) q (upd σ (56 + 9 * j + 3) (σ (56 + 9 * j + 3) - 1))) → WM g p l e rm_X11_leaves s m args below meth c Q tpl b n (sv v τ) 57 [some (.ref (b + 0)), some (.int (nI j)), some (.int y), some (.int (nI q)), some (.int (56 + 9 * nI j)), some (.int (nI k))] [] := by
          intro r
          induction r with
          | zero =>
            intro k τ hk hqk h3 hR
            refine r_iload C dX11_leaves_57 rfl ?_
            refine r_aload_n C dX11_leaves_59 rfl ?_
            refine gf_X11_7 C dX11_leaves_60 hm.1 (hm.k (by decide)) ?_
            refine r_iload C dX11_leaves_63 rfl ?_
            refine r_iconst C dX11_leaves_65 ic_3 ?_
            refine r_iadd C dX11_leaves_66 ?_
            refine r_sld C dX11_leaves_67 hm (j := ((56 + 9 * j) + 3)) (na_add (na_add kn_56 (na_mul kn_9 rfl)) kn_3) (by omega) ?_
            refine r_icmp_ge (tgt := 103) C dX11_leaves_68 rfl (fun c_68 => ?_) (fun c_68 => ?_)
            · skip
              refine r_aload_n C dX11_leaves_103 rfl ?_
              refine gf_X11_7 C dX11_leaves_104 hm.1 (hm.k (by decide)) ?_
              refine r_iload C dX11_leaves_107 rfl ?_
              refine r_iconst C dX11_leaves_109 ic_3 ?_
              refine r_iadd C dX11_leaves_110 ?_
              refine r_sld C dX11_leaves_111 hm (j := ((56 + 9 * j) + 3)) (na_add (na_add kn_56 (na_mul kn_9 rfl)) kn_3) (by omega) ?_
              exact hE _ _ _ _ dX11_leaves_112 (by rw [hL, ← hR]; exact And.intro (by rw [h3, ← em1, em]) rfl)
            · exact absurd c_68 (by rw [h3]; exact nI_nlt (by omega) (by omega))
          | succ r ih_57 =>
            intro k τ hk hqk h3 hR
            refine r_iload C dX11_leaves_57 rfl ?_
            refine r_aload_n C dX11_leaves_59 rfl ?_
            refine gf_X11_7 C dX11_leaves_60 hm.1 (hm.k (by decide)) ?_
            refine r_iload C dX11_leaves_63 rfl ?_
            refine r_iconst C dX11_leaves_65 ic_3 ?_
            refine r_iadd C dX11_leaves_66 ?_
            refine r_sld C dX11_leaves_67 hm (j := ((56 + 9 * j) + 3)) (na_add (na_add kn_56 (na_mul kn_9 rfl)) kn_3) (by omega) ?_
            refine r_icmp_ge (tgt := 103) C dX11_leaves_68 rfl (fun c_68 => ?_) (fun c_68 => ?_)
            · exact absurd (by rw [h3]; exact nI_lt (by omega) (by omega)) c_68
            · skip
              refine r_aload_n C dX11_leaves_71 rfl ?_
              refine gf_X11_7 C dX11_leaves_72 hm.1 (hm.k (by decide)) ?_
              refine r_iload C dX11_leaves_75 rfl ?_
              refine r_iconst C dX11_leaves_77 ic_4 ?_
              refine r_iadd C dX11_leaves_78 ?_
              refine r_iload C dX11_leaves_79 rfl ?_
              refine r_iadd C dX11_leaves_81 ?_
              refine r_aload_n C dX11_leaves_82 rfl ?_
              refine gf_X11_7 C dX11_leaves_83 hm.1 (hm.k (by decide)) ?_
              refine r_iload C dX11_leaves_86 rfl ?_
              refine r_iconst C dX11_leaves_88 ic_4 ?_
              refine r_iadd C dX11_leaves_89 ?_
              refine r_iload C dX11_leaves_90 rfl ?_
              refine r_iadd C dX11_leaves_92 ?_
              refine r_iconst C dX11_leaves_93 ic_1 ?_
              refine r_iadd C dX11_leaves_94 ?_
              refine r_sld C dX11_leaves_95 hm (j := ((((56 + 9 * j) + 4) + k) + 1)) (na_add (na_add (na_add (na_add kn_56 (na_mul kn_9 rfl)) kn_4) rfl) kn_1) (by omega) ?_
              refine r_sst C dX11_leaves_96 hm (j := (((56 + 9 * j) + 4) + k)) (na_add (na_add (na_add kn_56 (na_mul kn_9 rfl)) kn_4) rfl) (by omega) ?_
              refine r_iinc C dX11_leaves_97 rfl (nI_inc _) rfl ?_
              refine r_goto (tgt := 57) C dX11_leaves_100 rfl ?_
              exact ih_57 (k + 1) _ (by omega) (by omega) (by rw [upd_o (by omega)]; exact h3) (by rw [← hR]; rfl)
        exact loop_57 (m0 - 1 - q) q _ (by omega) (Nat.le_refl q) (by rw [upd_r, em]; exact em1) rfl
      · skip
        refine r_bipush C dX11_leaves_29 bp_m2 ?_
        exact hE _ _ _ _ dX11_leaves_31 (by simp (disch := omega) [pI, pV, mLeaves, c_5, nc, c_13, nm, c_26, upd_o, upd_r])
    · skip
      refine r_iconst C dX11_leaves_16 ic_m1 ?_
      exact hE _ _ _ _ dX11_leaves_17 (by simp (disch := omega) [pI, pV, mLeaves, c_5, nc, c_13, upd_o, upd_r])
