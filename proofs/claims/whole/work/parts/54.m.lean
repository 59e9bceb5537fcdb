/-! ===== the reference: does, fault, play ===== -/
def mWhy (f x : Int32) : Int32 := if f = 0 then 1 else if x = -1 then 2 else if x < 0 then 3 else 0
def mDoU (w : mV) (a N : Nat) : mV := u2 (mCmd w (w 1) a N).2 0 9 (mWhy ((mCmd w (w 1) a N).2 0 8) (mCmd w (w 1) a N).1)
def mDoes (N : Nat) : Nat → Nat → mV → Int32 × mV
  | 0, c, w => (-1 - nI c, w)
  | r + 1, c, w => if (w 0 7).toNatClampNeg < N then (if 0 < mDoU w (w 0 7).toNatClampNeg N 0 9 then (w 0 7, mDoU w (w 0 7).toNatClampNeg N) else mDoes N r (c + 1) (mDoU w (w 0 7).toNatClampNeg N)) else (-1 - nI c, w)
def mDo (v : mV) (N : Nat) : Int32 × mV := mDoes N N 0 (u2 v 0 7 0)
def MG (s : Nat → Int32) : Prop := ∃ U, U ≤ 30000 ∧ MT s U U
theorem mDoU_ok {w : mV} {a N : Nat} (ha : w 0 7 = nI a) (h : MG (w 1)) : ∃ a', a < a' ∧ a' ≤ a + 13 ∧ mDoU w a N 0 7 = nI a' ∧ (∀ q, q ≠ 0 → q ≠ 1 → q ≠ 6 → mDoU w a N q = w q) ∧ (∀ f, f < 7 → mDoU w a N 0 f = w 0 f) ∧ MG (mDoU w a N 1) := by
  obtain ⟨T, hT, hM⟩ := h
  obtain ⟨a', U, h1, h2, h3, h4, h5, h6, h7⟩ := mCmd_ok (N := N) ha hM hT
  refine ⟨a', h1, h2, ?_, fun q h0 h1 h6 => ?_, fun f hf => ?_, U, h6, ?_⟩
  · rw [mDoU, u2_r, upd_o (by omega)]; exact h3
  · rw [mDoU, u2_o h0]; exact h4 q h0 h1 h6
  · rw [mDoU, u2_r, upd_o (by omega)]; exact h5 f (by omega) (by omega)
  · rw [mDoU, u2_o (by omega)]; exact h7
theorem mDoes_ok {N : Nat} (hN : N ≤ 80) : ∀ (r c : Nat) (w : mV), (∃ a, a ≤ 93 ∧ w 0 7 = nI a) → MG (w 1) → (∀ q, q ≠ 0 → q ≠ 1 → q ≠ 6 → (mDoes N r c w).2 q = w q) ∧ (∀ f, f < 7 → (mDoes N r c w).2 0 f = w 0 f) ∧ MG ((mDoes N r c w).2 1)
  | 0, c, w, _, h => ⟨fun _ _ _ _ => rfl, fun _ _ => rfl, h⟩
  | r + 1, c, w, ⟨a, ha9, ha⟩, h => by
    unfold mDoes
    rw [show (w 0 7).toNatClampNeg = a by rw [ha]; exact nI_clamp (by omega)]
    split
    · rename_i hl
      obtain ⟨a', h1, h2, h3, h4, h5, h6⟩ := mDoU_ok (N := N) ha h
      split
      · exact ⟨h4, h5, h6⟩
      · obtain ⟨b1, b2, b3⟩ := mDoes_ok hN r (c + 1) (mDoU w a N) ⟨a', by omega, h3⟩ h6
        exact ⟨fun q h0 h1 h6 => (b1 q h0 h1 h6).trans (h4 q h0 h1 h6), fun f hf => (b2 f hf).trans (h5 f hf), b3⟩
    · exact ⟨fun _ _ _ _ => rfl, fun _ _ => rfl, h⟩
theorem mDo_ok {v : mV} {N : Nat} (hN : N ≤ 80) (h : MG (v 1)) : (∀ q, q ≠ 0 → q ≠ 1 → q ≠ 6 → (mDo v N).2 q = v q) ∧ (∀ f, f < 7 → (mDo v N).2 0 f = v 0 f) ∧ MG ((mDo v N).2 1) := by
  obtain ⟨b1, b2, b3⟩ := mDoes_ok hN N 0 (u2 v 0 7 0) ⟨0, by omega, by rw [u2_r, upd_r]; exact kn_0⟩ (by rw [u2_o (by omega)]; exact h)
  exact ⟨fun q h0 h1 h6 => (b1 q h0 h1 h6).trans (u2_o h0 ▸ rfl), fun f hf => (b2 f hf).trans (by rw [u2_r, upd_o (by omega)]), b3⟩
def mBack (w : mV) : mV := sv w (mRet w (w 1) 229)
def mFault (v : mV) (σ : Nat → Int32) (N : Nat) (x : Int32) : Int32 × mV := if mIn x 0 1 = 0 then (-1, sv v σ) else (if (mDo (sv (mBegin v σ) σ) N).1 < 0 then -4 else if x = 0 then (mDo (sv (mBegin v σ) σ) N).1 else (mDo (sv (mBegin v σ) σ) N).2 0 9, mBack (mDo (sv (mBegin v σ) σ) N).2)
def mPlay (v : mV) (σ : Nat → Int32) (N st : Nat) : Int32 × mV := if (mDo (sv (mBegin v σ) σ) N).1 < 0 then (-1 - (mDo (sv (mBegin v σ) σ) N).1, if -1 - (mDo (sv (mBegin v σ) σ) N).1 < 0 then (mDo (sv (mBegin v σ) σ) N).2 else mAct (mDo (sv (mBegin v σ) σ) N).2 st) else (-2, mBack (mDo (sv (mBegin v σ) σ) N).2)
set_option maxRecDepth 100000 in
set_option maxHeartbeats 4000000 in
theorem c_X11_does {g : mG} {l : Launch} {tpl : mT} {b n : Nat} {v : mV} (hm : isM g tpl b n) (hM : MG (v 1)) (N : Nat) (hN : v 0 6 = nI N) (hN80 : N ≤ 80) : CT g l tpl b n yX11_does cX11_does 4 (some .int) rm_X11_does [.ref (b + 0)] v (pI (mDo v N).1 (mDo v N).2) := by
  refine CT.introI [some (.ref (b + 0)), none, none, none] (own := RX11) (by decide +kernel) rfl rfl rfl rfl ?_
  intro p e s m args below meth c Q C hE
  refine r_aload_n C dX11_does_0 rfl ?_
  refine r_iconst C dX11_does_1 ic_0 ?_
  refine pf_X11_170 C dX11_does_2 hm.1 (hm.k (by decide)) ?_
  refine r_iconst C dX11_does_5 ic_0 ?_
  refine r_istore_n C dX11_does_6 rfl rfl ?_
  have loop_7 : ∀ (r : Nat) (cn a : Nat) (w : mV) (z2 z3 : Option Value), (N ≤ a + r) → (a ≤ 93) → (w 0 7 = nI a) → (w 0 6 = nI N) → (MG (w 1)) → (mDoes N r cn w = mDoes N N 0 (u2 v 0 7 0)) → WM g p l e rm_X11_does s m args below meth c Q tpl b n w 7 [some (.ref (b + 0)), some (.int (nI cn)), z2, z3] [] := by
    intro r
    induction r with
    | zero =>
      intro cn a w z2 z3 hi ha h7 h6 hG hR
      have na : (w 0 7).toNatClampNeg = a := by rw [h7]; exact nI_clamp (by omega)
      refine r_aload_n C dX11_does_7 rfl ?_
      refine gf_X11_170 C dX11_does_8 hm.1 (hm.k (by decide)) ?_
      refine r_aload_n C dX11_does_11 rfl ?_
      refine gf_X11_161 C dX11_does_12 hm.1 (hm.k (by decide)) ?_
      refine r_icmp_ge (tgt := 76) C dX11_does_15 rfl (fun c_15 => ?_) (fun c_15 => ?_)
      · skip
        refine r_iconst C dX11_does_76 ic_m1 ?_
        refine r_iload_n C dX11_does_77 rfl ?_
        refine r_isub C dX11_does_78 ?_
        exact hE _ _ _ _ dX11_does_79 (by rw [mDo, ← hR]; first | (rw [mDoes, na, if_neg (fun hl => c_15 ((na_lt h7 h6 (by omega) (by omega)).mpr hl))]; exact And.intro rfl rfl) | exact And.intro rfl rfl)
      · exact absurd ((na_lt h7 h6 (by omega) (by omega)).mp c_15) (by omega)
    | succ r ih_7 =>
      intro cn a w z2 z3 hi ha h7 h6 hG hR
      have na : (w 0 7).toNatClampNeg = a := by rw [h7]; exact nI_clamp (by omega)
      refine r_aload_n C dX11_does_7 rfl ?_
      refine gf_X11_170 C dX11_does_8 hm.1 (hm.k (by decide)) ?_
      refine r_aload_n C dX11_does_11 rfl ?_
      refine gf_X11_161 C dX11_does_12 hm.1 (hm.k (by decide)) ?_
      refine r_icmp_ge (tgt := 76) C dX11_does_15 rfl (fun c_15 => ?_) (fun c_15 => ?_)
      · skip
        refine r_iconst C dX11_does_76 ic_m1 ?_
        refine r_iload_n C dX11_does_77 rfl ?_
        refine r_isub C dX11_does_78 ?_
        exact hE _ _ _ _ dX11_does_79 (by rw [mDo, ← hR]; first | (rw [mDoes, na, if_neg (fun hl => c_15 ((na_lt h7 h6 (by omega) (by omega)).mpr hl))]; exact And.intro rfl rfl) | exact And.intro rfl rfl)
      · skip
        have hl : a < N := (na_lt h7 h6 (by omega) (by omega)).mp c_15
        obtain ⟨T, hT, hMT⟩ := hG
        obtain ⟨a1, l1, l2, d7, d4, d5, dG⟩ := mDoU_ok (N := N) h7 ⟨T, hT, hMT⟩
        have hU : ∀ z, z = mWhy ((mCmd w (w 1) a N).2 0 8) (mCmd w (w 1) a N).1 → u2 (mCmd w (w 1) a N).2 0 9 z = mDoU w a N := fun z hz => by rw [hz]; rfl
        refine r_aload_n C dX11_does_18 rfl ?_
        refine gf_X11_170 C dX11_does_19 hm.1 (hm.k (by decide)) ?_
        rw [h7]
        refine r_istore_n C dX11_does_22 rfl rfl ?_
        rw [← sv_id (v := w)]
        refine r_aload_n C dX11_does_23 rfl ?_
        refine cvI_X11_186 C dX11_does_24 (c_X11_command hm T hMT hT N h6 hN80 a h7 (by omega)) hm.1 (hm.k (by decide)) ⟨rfl, rfl⟩ rfl rfl rfl ?_
        refine r_istore_n C dX11_does_27 rfl rfl ?_
        refine r_aload_n C dX11_does_28 rfl ?_
        refine r_aload_n C dX11_does_29 rfl ?_
        refine gf_X11_173 C dX11_does_30 hm.1 (hm.k (by decide)) ?_
        refine r_if_ne (tgt := 40) C dX11_does_33 rfl (fun c_33 => ?_) (fun c_33 => ?_)
        · skip
          refine r_iload_n C dX11_does_40 rfl ?_
          refine r_iconst C dX11_does_41 ic_m1 ?_
          refine r_icmp_ne (tgt := 49) C dX11_does_42 rfl (fun c_42 => ?_) (fun c_42 => ?_)
          · skip
            refine r_iload_n C dX11_does_49 rfl ?_
            refine r_if_ge (tgt := 57) C dX11_does_50 rfl (fun c_50 => ?_) (fun c_50 => ?_)
            · skip
              have hw : mWhy ((mCmd w (w 1) a N).2 0 8) (mCmd w (w 1) a N).1 = 0 := by rw [mWhy, if_neg c_33, if_neg c_42, if_neg c_50]
              refine r_iconst C dX11_does_57 ic_0 ?_
              refine pf_X11_189 C dX11_does_58 hm.1 (hm.k (by decide)) ?_
              rw [hU _ hw.symm]
              refine r_aload_n C dX11_does_61 rfl ?_
              refine gf_X11_189 C dX11_does_62 hm.1 (hm.k (by decide)) ?_
              refine r_if_le (tgt := 70) C dX11_does_65 rfl (fun c_65 => ?_) (fun c_65 => ?_)
              · skip
                skip
                refine r_iinc C dX11_does_70 rfl (nI_inc _) rfl ?_
                refine r_goto (tgt := 7) C dX11_does_73 rfl ?_
                exact ih_7 (cn + 1) a1 _ _ _ (by omega) (by omega) d7 (by rw [d5 6 (by omega)]; exact h6) dG (by rw [← hR, mDoes, na, if_pos hl, if_neg c_65])
              · skip
                refine r_iload_n C dX11_does_68 rfl ?_
                exact hE _ _ _ _ dX11_does_69 (by rw [mDo, ← hR, mDoes, na, if_pos hl, if_pos c_65, h7]; exact And.intro rfl rfl)
            · skip
              have hw : mWhy ((mCmd w (w 1) a N).2 0 8) (mCmd w (w 1) a N).1 = 3 := by rw [mWhy, if_neg c_33, if_neg c_42, if_pos c_50]
              refine r_iconst C dX11_does_53 ic_3 ?_
              refine r_goto (tgt := 58) C dX11_does_54 rfl ?_
              refine pf_X11_189 C dX11_does_58 hm.1 (hm.k (by decide)) ?_
              rw [hU _ hw.symm]
              refine r_aload_n C dX11_does_61 rfl ?_
              refine gf_X11_189 C dX11_does_62 hm.1 (hm.k (by decide)) ?_
              refine r_if_le (tgt := 70) C dX11_does_65 rfl (fun c_65 => ?_) (fun c_65 => ?_)
              · skip
                skip
                refine r_iinc C dX11_does_70 rfl (nI_inc _) rfl ?_
                refine r_goto (tgt := 7) C dX11_does_73 rfl ?_
                exact ih_7 (cn + 1) a1 _ _ _ (by omega) (by omega) d7 (by rw [d5 6 (by omega)]; exact h6) dG (by rw [← hR, mDoes, na, if_pos hl, if_neg c_65])
              · skip
                refine r_iload_n C dX11_does_68 rfl ?_
                exact hE _ _ _ _ dX11_does_69 (by rw [mDo, ← hR, mDoes, na, if_pos hl, if_pos c_65, h7]; exact And.intro rfl rfl)
          · skip
            have hw : mWhy ((mCmd w (w 1) a N).2 0 8) (mCmd w (w 1) a N).1 = 2 := by rw [mWhy, if_neg c_33, if_pos c_42]
            refine r_iconst C dX11_does_45 ic_2 ?_
            refine r_goto (tgt := 58) C dX11_does_46 rfl ?_
            refine pf_X11_189 C dX11_does_58 hm.1 (hm.k (by decide)) ?_
            rw [hU _ hw.symm]
            refine r_aload_n C dX11_does_61 rfl ?_
            refine gf_X11_189 C dX11_does_62 hm.1 (hm.k (by decide)) ?_
            refine r_if_le (tgt := 70) C dX11_does_65 rfl (fun c_65 => ?_) (fun c_65 => ?_)
            · skip
              skip
              refine r_iinc C dX11_does_70 rfl (nI_inc _) rfl ?_
              refine r_goto (tgt := 7) C dX11_does_73 rfl ?_
              exact ih_7 (cn + 1) a1 _ _ _ (by omega) (by omega) d7 (by rw [d5 6 (by omega)]; exact h6) dG (by rw [← hR, mDoes, na, if_pos hl, if_neg c_65])
            · skip
              refine r_iload_n C dX11_does_68 rfl ?_
              exact hE _ _ _ _ dX11_does_69 (by rw [mDo, ← hR, mDoes, na, if_pos hl, if_pos c_65, h7]; exact And.intro rfl rfl)
        · skip
          have hw : mWhy ((mCmd w (w 1) a N).2 0 8) (mCmd w (w 1) a N).1 = 1 := by rw [mWhy, if_pos c_33]
          refine r_iconst C dX11_does_36 ic_1 ?_
          refine r_goto (tgt := 58) C dX11_does_37 rfl ?_
          refine pf_X11_189 C dX11_does_58 hm.1 (hm.k (by decide)) ?_
          rw [hU _ hw.symm]
          refine r_aload_n C dX11_does_61 rfl ?_
          refine gf_X11_189 C dX11_does_62 hm.1 (hm.k (by decide)) ?_
          refine r_if_le (tgt := 70) C dX11_does_65 rfl (fun c_65 => ?_) (fun c_65 => ?_)
          · skip
            skip
            refine r_iinc C dX11_does_70 rfl (nI_inc _) rfl ?_
            refine r_goto (tgt := 7) C dX11_does_73 rfl ?_
            exact ih_7 (cn + 1) a1 _ _ _ (by omega) (by omega) d7 (by rw [d5 6 (by omega)]; exact h6) dG (by rw [← hR, mDoes, na, if_pos hl, if_neg c_65])
          · skip
            refine r_iload_n C dX11_does_68 rfl ?_
            exact hE _ _ _ _ dX11_does_69 (by rw [mDo, ← hR, mDoes, na, if_pos hl, if_pos c_65, h7]; exact And.intro rfl rfl)
  exact loop_7 N 0 0 _ _ _ (by omega) (by omega) (by rw [u2_r, upd_r]; exact kn_0) (by rw [u2_r, upd_o (by omega)]; exact hN) (by rw [u2_o (by omega)]; exact hM) rfl
set_option maxRecDepth 100000 in
set_option maxHeartbeats 4000000 in
theorem c_X11_fault {g : mG} {l : Launch} {tpl : mT} {b n : Nat} {v : mV} {σ : Nat → Int32} (hm : isM g tpl b n) (hM : MG σ) (N : Nat) (hN : v 0 6 = nI N) (hN80 : N ≤ 80) (x : Int32) : CT g l tpl b n yX11_fault cX11_fault 3 (some .int) rm_X11_fault [.ref (b + 0), .int x] (sv v σ) (pI (mFault v σ N x).1 (mFault v σ N x).2) := by
  refine CT.introI [some (.ref (b + 0)), some (.int x), none] (own := RX11) (by decide +kernel) rfl rfl rfl rfl ?_
  intro p e s m args below meth c Q C hE
  refine r_iload_n C dX11_fault_0 rfl ?_
  refine r_iconst C dX11_fault_1 ic_0 ?_
  refine r_iconst C dX11_fault_2 ic_1 ?_
  refine cvI_X11_32 C dX11_fault_3 (c_X11_in _ _ _) ⟨rfl, rfl⟩ rfl rfl rfl ?_
  refine r_if_ne (tgt := 11) C dX11_fault_6 rfl (fun c_6 => ?_) (fun c_6 => ?_)
  · skip
    refine r_aload_n C dX11_fault_11 rfl ?_
    refine cvV_X11_108 C dX11_fault_12 (c_X11_begins hm) hm.1 (hm.k (by decide)) ⟨rfl, rfl⟩ rfl rfl rfl ?_
    refine r_aload_n C dX11_fault_15 rfl ?_
    refine cvI_X11_192 C dX11_fault_16 (c_X11_does hm (by show MG σ; exact hM) N (by show v 0 6 = nI N; exact hN) hN80) hm.1 (hm.k (by decide)) ⟨rfl, rfl⟩ rfl rfl rfl ?_
    refine r_istore_n C dX11_fault_19 rfl rfl ?_
    obtain ⟨o1, o2, o3⟩ := mDo_ok (v := sv (mBegin v σ) σ) hN80 (by show MG σ; exact hM)
    generalize hD : mDo (sv (mBegin v σ) σ) N = D at o1 o2 o3
    rw [show D.2 = sv D.2 (D.2 1) from sv_id.symm]
    refine r_aload_n C dX11_fault_20 rfl ?_
    refine cvV_X11_195 C dX11_fault_21 (c_X11_returns hm) hm.1 (hm.k (by decide)) ⟨rfl, rfl⟩ rfl rfl rfl ?_
    rw [show sv D.2 (mRet D.2 (D.2 1) 229) = mBack D.2 from rfl]
    have hF : mFault v σ N x = (if D.1 < 0 then -4 else if x = 0 then D.1 else D.2 0 9, mBack D.2) := by rw [mFault, if_neg c_6, hD]
    refine r_iload_n C dX11_fault_24 rfl ?_
    refine r_if_ge (tgt := 33) C dX11_fault_25 rfl (fun c_25 => ?_) (fun c_25 => ?_)
    · skip
      refine r_iload_n C dX11_fault_33 rfl ?_
      refine r_if_ne (tgt := 41) C dX11_fault_34 rfl (fun c_34 => ?_) (fun c_34 => ?_)
      · skip
        refine r_aload_n C dX11_fault_41 rfl ?_
        refine gf_X11_189 C dX11_fault_42 hm.1 (hm.k (by decide)) ?_
        exact hE _ _ _ _ dX11_fault_45 (by rw [hF]; first | (rw [if_pos c_25]; exact And.intro rfl rfl) | (rw [if_neg c_25, if_pos c_34]; exact And.intro rfl rfl) | (rw [if_neg c_25, if_neg c_34]; exact And.intro rfl rfl))
      · skip
        refine r_iload_n C dX11_fault_37 rfl ?_
        refine r_goto (tgt := 45) C dX11_fault_38 rfl ?_
        exact hE _ _ _ _ dX11_fault_45 (by rw [hF]; first | (rw [if_pos c_25]; exact And.intro rfl rfl) | (rw [if_neg c_25, if_pos c_34]; exact And.intro rfl rfl) | (rw [if_neg c_25, if_neg c_34]; exact And.intro rfl rfl))
    · skip
      refine r_bipush C dX11_fault_28 bp_m4 ?_
      refine r_goto (tgt := 45) C dX11_fault_30 rfl ?_
      exact hE _ _ _ _ dX11_fault_45 (by rw [hF]; first | (rw [if_pos c_25]; exact And.intro rfl rfl) | (rw [if_neg c_25, if_pos c_34]; exact And.intro rfl rfl) | (rw [if_neg c_25, if_neg c_34]; exact And.intro rfl rfl))
  · skip
    refine r_iconst C dX11_fault_9 ic_m1 ?_
    exact hE _ _ _ _ dX11_fault_10 (by rw [mFault, if_pos c_6]; exact And.intro rfl rfl)
set_option maxRecDepth 100000 in
set_option maxHeartbeats 4000000 in
theorem c_X11_play {g : mG} {l : Launch} {tpl : mT} {b n : Nat} {v : mV} {σ : Nat → Int32} (hm : isM g tpl b n) (hM : MG σ) (N : Nat) (hN : v 0 6 = nI N) (hN80 : N ≤ 80) (st : Nat) (hst : v 0 4 = nI st) (hst4 : st ≤ 4) : CT g l tpl b n yX11_play cX11_play 2 (some .int) rm_X11_play [.ref (b + 0)] (sv v σ) (pI (mPlay v σ N st).1 (mPlay v σ N st).2) := by
  refine CT.introI [some (.ref (b + 0)), none] (own := RX11) (by decide +kernel) rfl rfl rfl rfl ?_
  intro p e s m args below meth c Q C hE
  refine r_aload_n C dX11_play_0 rfl ?_
  refine cvV_X11_108 C dX11_play_1 (c_X11_begins hm) hm.1 (hm.k (by decide)) ⟨rfl, rfl⟩ rfl rfl rfl ?_
  refine r_aload_n C dX11_play_4 rfl ?_
  refine cvI_X11_192 C dX11_play_5 (c_X11_does hm (by show MG σ; exact hM) N (by show v 0 6 = nI N; exact hN) hN80) hm.1 (hm.k (by decide)) ⟨rfl, rfl⟩ rfl rfl rfl ?_
  obtain ⟨o1, o2, o3⟩ := mDo_ok (v := sv (mBegin v σ) σ) hN80 (by show MG σ; exact hM)
  generalize hD : mDo (sv (mBegin v σ) σ) N = D at o1 o2 o3
  refine r_istore_n C dX11_play_8 rfl rfl ?_
  refine r_iload_n C dX11_play_9 rfl ?_
  refine r_if_lt (tgt := 20) C dX11_play_10 rfl (fun c_10 => ?_) (fun c_10 => ?_)
  · skip
    refine r_aload_n C dX11_play_20 rfl ?_
    refine r_iconst C dX11_play_21 ic_m1 ?_
    refine r_iload_n C dX11_play_22 rfl ?_
    refine r_isub C dX11_play_23 ?_
    refine cvI_X11_114 C dX11_play_24 (c_X11_acted hm st (by rw [o2 4 (by omega)]; exact hst) hst4 _) hm.1 (hm.k (by decide)) ⟨rfl, rfl⟩ rfl rfl rfl ?_
    exact hE _ _ _ _ dX11_play_27 (by rw [mPlay, hD, if_pos c_10]; refine And.intro ?_ ?_ <;> with_reducible rfl)
  · skip
    rw [show D.2 = sv D.2 (D.2 1) from sv_id.symm]
    refine r_aload_n C dX11_play_13 rfl ?_
    refine cvV_X11_195 C dX11_play_14 (c_X11_returns hm) hm.1 (hm.k (by decide)) ⟨rfl, rfl⟩ rfl rfl rfl ?_
    rw [show sv D.2 (mRet D.2 (D.2 1) 229) = mBack D.2 from rfl]
    refine r_bipush C dX11_play_17 bp_m2 ?_
    exact hE _ _ _ _ dX11_play_19 (by rw [mPlay, hD, if_neg c_10]; exact And.intro rfl rfl)
