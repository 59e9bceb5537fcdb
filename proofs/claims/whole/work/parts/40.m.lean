/-! ===== the reference: what is kept ===== -/
def cpR (v : mV) (k : Nat) (f : Nat → Int32) : mV := fun q => if q = k then f else v q
theorem cpR_r {v : mV} {k : Nat} {f : Nat → Int32} : cpR v k f k = f := by simp [cpR]
theorem cpR_o {v : mV} {k q : Nat} {f : Nat → Int32} (h : q ≠ k) : cpR v k f q = v q := by simp [cpR, h]
theorem cpR_u2 {v : mV} {k j : Nat} {x : Int32} {f : Nat → Int32} : u2 (cpR v k f) k j x = cpR v k (upd f j x) := by
  funext q
  by_cases h : q = k
  · subst h
    rw [u2_r, cpR_r, cpR_r]
  · rw [u2_o h, cpR_o h, cpR_o h]
theorem sv_u2o {v : mV} {σ : Nat → Int32} {k j : Nat} {x : Int32} (h : k ≠ 1) : u2 (sv v σ) k j x = sv (u2 v k j x) σ := by
  funext q
  by_cases hq : q = k
  · subst hq
    rw [u2_r, sv_o h, sv_o h, u2_r]
  · by_cases h1 : q = 1
    · subst h1
      rw [u2_o hq, sv_1, sv_1]
    · rw [u2_o hq, sv_o h1, sv_o h1, u2_o hq]
def mBeg (v : mV) (σ : Nat → Int32) (i : Nat) : Nat → Int32 := fun j => if j < i then σ j else v 2 j
def mRet (v : mV) (σ : Nat → Int32) (i : Nat) : Nat → Int32 := fun j => if j < i then v 2 j else σ j
theorem mBeg_s {v : mV} {σ : Nat → Int32} {i : Nat} : u2 (sv (cpR v 2 (mBeg v σ i)) σ) 2 i (σ i) = sv (cpR v 2 (mBeg v σ (i + 1))) σ := by
  rw [sv_u2o (by omega), cpR_u2]
  congr 2
  funext j
  by_cases h : j = i
  · subst h; rw [upd_r]; simp [mBeg]
  · rw [upd_o h]
    unfold mBeg
    by_cases h1 : j < i
    · rw [if_pos h1, if_pos (by omega)]
    · rw [if_neg h1, if_neg (by omega)]
theorem mRet_s {v : mV} {σ : Nat → Int32} {i : Nat} : upd (mRet v σ i) i (v 2 i) = mRet v σ (i + 1) := by
  funext j
  by_cases h : j = i
  · subst h; rw [upd_r]; simp [mRet]
  · rw [upd_o h]
    unfold mRet
    by_cases h1 : j < i
    · rw [if_pos h1, if_pos (by omega)]
    · rw [if_neg h1, if_neg (by omega)]
theorem mBeg_0 {v : mV} {σ : Nat → Int32} : sv (cpR v 2 (mBeg v σ 0)) σ = sv v σ := by
  funext q
  by_cases h1 : q = 1
  · subst h1; rfl
  · rw [sv_o h1, sv_o h1]
    by_cases h2 : q = 2
    · subst h2
      rw [cpR_r]
      funext j
      simp [mBeg]
    · rw [cpR_o h2]
theorem mRet_0 {v : mV} {σ : Nat → Int32} : mRet v σ 0 = σ := by
  funext j
  simp [mRet]
def fA (v : mV) (k : Nat) : Nat → Int32 := fun q => if q < k then v 4 (q + 229) else v 4 q
def fB (w : mV) (s1 k : Nat) : Nat → Int32 := fun q => if 229 * s1 ≤ q ∧ q < 229 * s1 + k then w 2 (q - 229 * s1) else w 4 q
theorem fA_0 {v : mV} : cpR v 4 (fA v 0) = v := by
  funext q
  by_cases h : q = 4
  · subst h
    rw [cpR_r]
    funext j
    simp [fA]
  · rw [cpR_o h]
theorem fB_0 {v : mV} {s1 : Nat} : cpR v 4 (fB v s1 0) = v := by
  funext q
  by_cases h : q = 4
  · subst h
    rw [cpR_r]
    funext j
    unfold fB
    rw [if_neg (by omega)]
  · rw [cpR_o h]
theorem fA_s {v : mV} {k : Nat} : u2 (cpR v 4 (fA v k)) 4 k (cpR v 4 (fA v k) 4 (k + 229)) = cpR v 4 (fA v (k + 1)) := by
  rw [cpR_u2, cpR_r]
  congr 1
  funext j
  by_cases h : j = k
  · subst h
    rw [upd_r]
    unfold fA
    rw [if_neg (by omega), if_pos (by omega)]
  · rw [upd_o h]
    unfold fA
    by_cases h1 : j < k
    · rw [if_pos h1, if_pos (by omega)]
    · rw [if_neg h1, if_neg (by omega)]
theorem fB_s {w : mV} {s1 k : Nat} : u2 (cpR w 4 (fB w s1 k)) 4 (229 * s1 + k) (w 2 k) = cpR w 4 (fB w s1 (k + 1)) := by
  rw [cpR_u2]
  congr 1
  funext j
  by_cases h : j = 229 * s1 + k
  · subst h
    rw [upd_r]
    unfold fB
    rw [if_pos (by omega), Nat.add_sub_cancel_left]
  · rw [upd_o h]
    unfold fB
    by_cases h1 : 229 * s1 ≤ j ∧ j < 229 * s1 + k
    · rw [if_pos h1, if_pos (by omega)]
    · rw [if_neg h1, if_neg (by omega)]
def mAct1 (w : mV) (s1 : Nat) : mV := u2 (cpR w 4 (fB w s1 229)) 0 4 (nI (s1 + 1))
def mAct (v : mV) (st : Nat) : mV := if st = 4 then mAct1 (u2 (cpR v 4 (fA v 687)) 0 4 (nI 3)) 3 else mAct1 v st
def mBegin (v : mV) (σ : Nat → Int32) : mV := cpR v 2 (mBeg v σ 229)
def mDone (v : mV) (σ : Nat → Int32) (st : Nat) (a : Int32 × (Nat → Int32)) : Int32 × mV := if a.1 < 0 then (a.1, sv (mBegin v σ) a.2) else (a.1, mAct (sv (mBegin v σ) a.2) st)
set_option maxRecDepth 100000 in
set_option maxHeartbeats 4000000 in
theorem c_X11_begins {g : mG} {l : Launch} {tpl : mT} {b n : Nat} {v : mV} {σ : Nat → Int32} (hm : isM g tpl b n) : CT g l tpl b n yX11_begins cX11_begins 2 none rm_X11_begins [.ref (b + 0)] (sv v σ) (pV (sv (mBegin v σ) σ)) := by
  refine CT.introV [some (.ref (b + 0)), none] (own := RX11) (by decide +kernel) rfl rfl rfl rfl ?_
  intro p e s m args below meth c Q C hE
  rw [← mBeg_0]
  refine r_iconst C dX11_begins_0 ic_0 ?_
  refine r_istore_n C dX11_begins_1 rfl rfl ?_
  have loop_2 : ∀ (r : Nat) (i : Nat), (i + r = 229) → WM g p l e rm_X11_begins s m args below meth c Q tpl b n (sv (cpR v 2 (mBeg v σ i)) σ) 2 [some (.ref (b + 0)), some (.int (nI i))] [] := by
    intro r
    induction r with
    | zero =>
      intro i hi
      refine r_iload_n C dX11_begins_2 rfl ?_
      refine r_sipush C dX11_begins_3 sp_229 ?_
      refine r_icmp_ge (tgt := 27) C dX11_begins_6 rfl (fun c_6 => ?_) (fun c_6 => ?_)
      · skip
        exact hE _ _ _ dX11_begins_27 (And.intro rfl (by rw [show i = 229 by omega]; rfl))
      · exact absurd c_6 (nI_nlt (a := i) (b := 229) (by omega) (by omega))
    | succ r ih_2 =>
      intro i hi
      refine r_iload_n C dX11_begins_2 rfl ?_
      refine r_sipush C dX11_begins_3 sp_229 ?_
      refine r_icmp_ge (tgt := 27) C dX11_begins_6 rfl (fun c_6 => ?_) (fun c_6 => ?_)
      · exact absurd (nI_lt (a := i) (b := 229) (by omega) (by omega)) c_6
      · skip
        refine r_aload_n C dX11_begins_9 rfl ?_
        refine gf_X11_13 C dX11_begins_10 hm.1 (hm.k (by decide)) ?_
        refine r_iload_n C dX11_begins_13 rfl ?_
        refine r_aload_n C dX11_begins_14 rfl ?_
        refine gf_X11_7 C dX11_begins_15 hm.1 (hm.k (by decide)) ?_
        refine r_iload_n C dX11_begins_18 rfl ?_
        refine r_sld C dX11_begins_19 hm (j := i) rfl (by omega) ?_
        refine r_iast C dX11_begins_20 hm.2.2.1 (hm.k (by decide)) (j := i) rfl (by omega) rfl ?_
        rw [mBeg_s]
        refine r_iinc C dX11_begins_21 rfl (nI_inc _) rfl ?_
        refine r_goto (tgt := 2) C dX11_begins_24 rfl ?_
        exact ih_2 (i + 1) (by omega)
  exact loop_2 229 0 rfl
set_option maxRecDepth 100000 in
set_option maxHeartbeats 4000000 in
theorem c_X11_returns {g : mG} {l : Launch} {tpl : mT} {b n : Nat} {v : mV} {σ : Nat → Int32} (hm : isM g tpl b n) : CT g l tpl b n yX11_returns cX11_returns 2 none rm_X11_returns [.ref (b + 0)] (sv v σ) (pV (sv v (mRet v σ 229))) := by
  refine CT.introV [some (.ref (b + 0)), none] (own := RX11) (by decide +kernel) rfl rfl rfl rfl ?_
  intro p e s m args below meth c Q C hE
  rw [← mRet_0 (v := v) (σ := σ)]
  refine r_iconst C dX11_returns_0 ic_0 ?_
  refine r_istore_n C dX11_returns_1 rfl rfl ?_
  have loop_2 : ∀ (r : Nat) (i : Nat), (i + r = 229) → WM g p l e rm_X11_returns s m args below meth c Q tpl b n (sv v (mRet v σ i)) 2 [some (.ref (b + 0)), some (.int (nI i))] [] := by
    intro r
    induction r with
    | zero =>
      intro i hi
      refine r_iload_n C dX11_returns_2 rfl ?_
      refine r_sipush C dX11_returns_3 sp_229 ?_
      refine r_icmp_ge (tgt := 27) C dX11_returns_6 rfl (fun c_6 => ?_) (fun c_6 => ?_)
      · skip
        exact hE _ _ _ dX11_returns_27 (And.intro rfl (by rw [show i = 229 by omega]))
      · exact absurd c_6 (nI_nlt (a := i) (b := 229) (by omega) (by omega))
    | succ r ih_2 =>
      intro i hi
      refine r_iload_n C dX11_returns_2 rfl ?_
      refine r_sipush C dX11_returns_3 sp_229 ?_
      refine r_icmp_ge (tgt := 27) C dX11_returns_6 rfl (fun c_6 => ?_) (fun c_6 => ?_)
      · exact absurd (nI_lt (a := i) (b := 229) (by omega) (by omega)) c_6
      · skip
        refine r_aload_n C dX11_returns_9 rfl ?_
        refine gf_X11_7 C dX11_returns_10 hm.1 (hm.k (by decide)) ?_
        refine r_iload_n C dX11_returns_13 rfl ?_
        refine r_aload_n C dX11_returns_14 rfl ?_
        refine gf_X11_13 C dX11_returns_15 hm.1 (hm.k (by decide)) ?_
        refine r_iload_n C dX11_returns_18 rfl ?_
        refine r_iald C dX11_returns_19 hm.2.2.1 (hm.k (by decide)) (j := i) rfl (by omega) rfl ?_
        refine r_sst C dX11_returns_20 hm (j := i) rfl (by omega) ?_
        rw [show (sv v (mRet v σ i) 2 i) = v 2 i from rfl, mRet_s]
        refine r_iinc C dX11_returns_21 rfl (nI_inc _) rfl ?_
        refine r_goto (tgt := 2) C dX11_returns_24 rfl ?_
        exact ih_2 (i + 1) (by omega)
  exact loop_2 229 0 rfl
