/-! ===== the reference: readNumber ===== -/
def mRdLp (N : Nat) : Nat → Nat → Nat → Int32 → mV → Nat × Int32 × mV
  | 0, i, _, z, w => (i, z, w)
  | r + 1, i, a, z, w => if mIn (mHere w a N) 48 57 = 0 then (i, z, w) else mRdLp N r (i + 1) (a + 1) (10 * z + mHere w a N - 48) (u2 w 0 7 (nI (a + 1)))
def mRdE (t : Nat × Int32 × mV) : mV := u2 t.2.2 0 8 (if t.2.2 0 8 = 0 then 0 else if 0 < nI t.1 then 1 else 0)
def mRd (v : mV) (a N : Nat) (x : Int32) : Nat × Int32 × mV := mRdLp N 3 0 (a + 1) 0 (mMust v a N x)
theorem mMust_7 {v : mV} {a N : Nat} {x : Int32} : mMust v a N x 0 7 = nI (a + 1) := by rw [mMust, u2_r, upd_r]
theorem mMust_6 {v : mV} {a N : Nat} {x : Int32} : mMust v a N x 0 6 = v 0 6 := by rw [mMust, u2_r, upd_o (by omega), u2_r, upd_o (by omega)]
set_option maxRecDepth 100000 in
set_option maxHeartbeats 4000000 in
theorem c_X11_readNumber {g : mG} {l : Launch} {tpl : mT} {b n : Nat} {v : mV} (hm : isM g tpl b n) (N : Nat) (hN : v 0 6 = nI N) (hN80 : N ≤ 80) (a : Nat) (ha : v 0 7 = nI a) (ha9 : a < 9000) (x : Int32) : CT g l tpl b n yX11_readNumber cX11_readNumber 4 (some .int) rm_X11_readNumber [.ref (b + 0), .int x] v (pI (mRd v a N x).2.1 (mRdE (mRd v a N x))) := by
  refine CT.introI [some (.ref (b + 0)), some (.int x), none, none] (own := RX11) (by decide +kernel) rfl rfl rfl rfl ?_
  intro p e s m args below meth c Q C hE
  refine r_aload_n C dX11_readNumber_0 rfl ?_
  refine r_iload_n C dX11_readNumber_1 rfl ?_
  refine cvV_X11_180 C dX11_readNumber_2 (c_X11_must hm N hN hN80 a ha (by omega) x) hm.1 (hm.k (by decide)) ⟨rfl, rfl⟩ rfl rfl rfl ?_
  refine r_iconst C dX11_readNumber_5 ic_0 ?_
  refine r_istore_n C dX11_readNumber_6 rfl rfl ?_
  refine r_iconst C dX11_readNumber_7 ic_0 ?_
  refine r_istore_n C dX11_readNumber_8 rfl rfl ?_
  have loop_9 : ∀ (r : Nat) (i : Nat) (q : Int32) (w : mV), (i + r = 3) → (w 0 6 = nI N) → (w 0 7 = nI (a + 1 + i)) → (mRdLp N r i (a + 1 + i) q w = mRd v a N x) → WM g p l e rm_X11_readNumber s m args below meth c Q tpl b n w 9 [some (.ref (b + 0)), some (.int x), some (.int q), some (.int (nI i))] [] := by
    intro r
    induction r with
    | zero =>
      intro i q w hi h6 h7 hR
      refine r_iload_n C dX11_readNumber_9 rfl ?_
      refine r_iconst C dX11_readNumber_10 ic_3 ?_
      refine r_icmp_ge (tgt := 57) C dX11_readNumber_11 rfl (fun c_11 => ?_) (fun c_11 => ?_)
      · skip
        refine r_aload_n C dX11_readNumber_57 rfl ?_
        refine r_aload_n C dX11_readNumber_58 rfl ?_
        refine gf_X11_173 C dX11_readNumber_59 hm.1 (hm.k (by decide)) ?_
        refine r_if_eq (tgt := 73) C dX11_readNumber_62 rfl (fun c_62 => ?_) (fun c_62 => ?_)
        · skip
          refine r_iconst C dX11_readNumber_73 ic_0 ?_
          refine pf_X11_173 C (Or.inl rfl) dX11_readNumber_74 hm.1 (hm.k (by decide)) ?_
          refine r_iload_n C dX11_readNumber_77 rfl ?_
          exact hE _ _ _ _ dX11_readNumber_78 (by rw [← hR]; simp [mRdLp, pI, mRdE, c_11, c_62])
        · skip
          refine r_iload_n C dX11_readNumber_65 rfl ?_
          refine r_if_le (tgt := 73) C dX11_readNumber_66 rfl (fun c_66 => ?_) (fun c_66 => ?_)
          · skip
            refine r_iconst C dX11_readNumber_73 ic_0 ?_
            refine pf_X11_173 C (Or.inl rfl) dX11_readNumber_74 hm.1 (hm.k (by decide)) ?_
            refine r_iload_n C dX11_readNumber_77 rfl ?_
            exact hE _ _ _ _ dX11_readNumber_78 (by rw [← hR]; simp [mRdLp, pI, mRdE, c_11, c_62, c_66])
          · skip
            refine r_iconst C dX11_readNumber_69 ic_1 ?_
            refine r_goto (tgt := 74) C dX11_readNumber_70 rfl ?_
            refine pf_X11_173 C (Or.inr rfl) dX11_readNumber_74 hm.1 (hm.k (by decide)) ?_
            refine r_iload_n C dX11_readNumber_77 rfl ?_
            exact hE _ _ _ _ dX11_readNumber_78 (by rw [← hR]; simp [mRdLp, pI, mRdE, c_11, c_62, c_66])
      · exact absurd c_11 (nI_nlt (a := i) (b := 3) (by omega) (by omega))
    | succ r ih_9 =>
      intro i q w hi h6 h7 hR
      refine r_iload_n C dX11_readNumber_9 rfl ?_
      refine r_iconst C dX11_readNumber_10 ic_3 ?_
      refine r_icmp_ge (tgt := 57) C dX11_readNumber_11 rfl (fun c_11 => ?_) (fun c_11 => ?_)
      · exact absurd (nI_lt (a := i) (b := 3) (by omega) (by omega)) c_11
      · skip
        refine r_aload_n C dX11_readNumber_14 rfl ?_
        refine cvI_X11_177 C dX11_readNumber_15 (c_X11_here hm N h6 hN80 (a + 1 + i) h7 (by omega)) hm.1 (hm.k (by decide)) ⟨rfl, rfl⟩ rfl rfl rfl ?_
        refine r_bipush C dX11_readNumber_18 bp_48 ?_
        refine r_bipush C dX11_readNumber_20 bp_57 ?_
        refine cvI_X11_32 C dX11_readNumber_22 (c_X11_in _ _ _) ⟨rfl, rfl⟩ rfl rfl rfl ?_
        refine r_if_eq (tgt := 57) C dX11_readNumber_25 rfl (fun c_25 => ?_) (fun c_25 => ?_)
        · skip
          refine r_aload_n C dX11_readNumber_57 rfl ?_
          refine r_aload_n C dX11_readNumber_58 rfl ?_
          refine gf_X11_173 C dX11_readNumber_59 hm.1 (hm.k (by decide)) ?_
          refine r_if_eq (tgt := 73) C dX11_readNumber_62 rfl (fun c_62 => ?_) (fun c_62 => ?_)
          · skip
            refine r_iconst C dX11_readNumber_73 ic_0 ?_
            refine pf_X11_173 C (Or.inl rfl) dX11_readNumber_74 hm.1 (hm.k (by decide)) ?_
            refine r_iload_n C dX11_readNumber_77 rfl ?_
            exact hE _ _ _ _ dX11_readNumber_78 (by rw [← hR]; simp [mRdLp, pI, mRdE, c_11, c_25, c_62])
          · skip
            refine r_iload_n C dX11_readNumber_65 rfl ?_
            refine r_if_le (tgt := 73) C dX11_readNumber_66 rfl (fun c_66 => ?_) (fun c_66 => ?_)
            · skip
              refine r_iconst C dX11_readNumber_73 ic_0 ?_
              refine pf_X11_173 C (Or.inl rfl) dX11_readNumber_74 hm.1 (hm.k (by decide)) ?_
              refine r_iload_n C dX11_readNumber_77 rfl ?_
              exact hE _ _ _ _ dX11_readNumber_78 (by rw [← hR]; simp [mRdLp, pI, mRdE, c_11, c_25, c_62, c_66])
            · skip
              refine r_iconst C dX11_readNumber_69 ic_1 ?_
              refine r_goto (tgt := 74) C dX11_readNumber_70 rfl ?_
              refine pf_X11_173 C (Or.inr rfl) dX11_readNumber_74 hm.1 (hm.k (by decide)) ?_
              refine r_iload_n C dX11_readNumber_77 rfl ?_
              exact hE _ _ _ _ dX11_readNumber_78 (by rw [← hR]; simp [mRdLp, pI, mRdE, c_11, c_25, c_62, c_66])
        · skip
          refine r_bipush C dX11_readNumber_28 bp_10 ?_
          refine r_iload_n C dX11_readNumber_30 rfl ?_
          refine r_imul C dX11_readNumber_31 ?_
          refine r_aload_n C dX11_readNumber_32 rfl ?_
          refine cvI_X11_177 C dX11_readNumber_33 (c_X11_here hm N h6 hN80 (a + 1 + i) h7 (by omega)) hm.1 (hm.k (by decide)) ⟨rfl, rfl⟩ rfl rfl rfl ?_
          refine r_iadd C dX11_readNumber_36 ?_
          refine r_bipush C dX11_readNumber_37 bp_48 ?_
          refine r_isub C dX11_readNumber_39 ?_
          refine r_istore_n C dX11_readNumber_40 rfl rfl ?_
          have e7 : w 0 7 + 1 = nI (a + 1 + i + 1) := by rw [h7]; exact nI_1 _
          refine r_iinc C dX11_readNumber_41 rfl (nI_inc _) rfl ?_
          refine r_aload_n C dX11_readNumber_44 rfl ?_
          refine r_dup C dX11_readNumber_45 rfl ?_
          refine gf_X11_170 C dX11_readNumber_46 hm.1 (hm.k (by decide)) ?_
          refine r_iconst C dX11_readNumber_49 ic_1 ?_
          refine r_iadd C dX11_readNumber_50 ?_
          rw [e7]
          refine pf_X11_170 C dX11_readNumber_51 hm.1 (hm.k (by decide)) ?_
          refine r_goto (tgt := 9) C dX11_readNumber_54 rfl ?_
          exact ih_9 (i + 1) _ _ (by omega) (by rw [u2_r, upd_o (by omega)]; exact h6) (by rw [u2_r, upd_r]; rfl) (by rw [← hR, mRdLp, if_neg c_25]; rfl)
  exact loop_9 3 0 0 _ rfl (by rw [mMust_6]; exact hN) mMust_7 rfl
