/-! ===== the reference: undo, type, clearText, here ===== -/
def fU (v : mV) (σ : Nat → Int32) (s1 i : Nat) : Nat → Int32 := fun q => if q < i then v 4 (229 * s1 + q) else σ q
theorem fU_0 {v : mV} {σ : Nat → Int32} {s1 : Nat} : fU v σ s1 0 = σ := by
  funext q
  unfold fU
  rw [if_neg (by omega)]
theorem fU_s {v : mV} {σ : Nat → Int32} {s1 i : Nat} : upd (fU v σ s1 i) i (v 4 (229 * s1 + i)) = fU v σ s1 (i + 1) := by
  funext q
  by_cases h : q = i
  · subst h
    rw [upd_r]
    unfold fU
    rw [if_pos (by omega)]
  · rw [upd_o h]
    unfold fU
    by_cases h1 : q < i
    · rw [if_pos h1, if_pos (by omega)]
    · rw [if_neg h1, if_neg (by omega)]
theorem mU_0 {v : mV} {σ : Nat → Int32} {s1 : Nat} : u2 (sv v σ) 0 4 (nI s1) = sv (u2 v 0 4 (nI s1)) (fU v σ s1 0) := by
  rw [fU_0]
  funext q
  by_cases h : q = 1
  · subst h
    rw [u2_o (by omega), sv_1, sv_1]
  · rw [sv_o h]
    by_cases h0 : q = 0
    · subst h0
      rw [u2_r, u2_r, sv_o (by omega)]
    · rw [u2_o h0, u2_o h0, sv_o h]
def mUndo (v : mV) (σ : Nat → Int32) (st : Nat) : Int32 × mV := if st = 0 then (-2, sv v σ) else (nI (st - 1), sv (u2 v 0 4 (nI (st - 1))) (fU v σ (st - 1) 229))
def mType (v : mV) (L : Nat) (x : Int32) : Int32 × mV := if mIn x 32 126 = 0 then (-1, v) else if L = 80 then (-3, v) else (nI (L + 1), u2 (u2 v 5 L x) 0 6 (nI (L + 1)))
set_option maxRecDepth 100000 in
set_option maxHeartbeats 4000000 in
theorem c_X11_clearText {g : mG} {l : Launch} {tpl : mT} {b n : Nat} {v : mV} (hm : isM g tpl b n) : CT g l tpl b n yX11_clearText cX11_clearText 2 (some .int) rm_X11_clearText [.ref (b + 0)] v (pI (v 0 6) (u2 v 0 6 0)) := by
  refine CT.introI [some (.ref (b + 0)), none] (own := RX11) (by decide +kernel) rfl rfl rfl rfl ?_
  intro p e s m args below meth c Q C hE
  refine r_aload_n C dX11_clearText_0 rfl ?_
  refine gf_X11_161 C dX11_clearText_1 hm.1 (hm.k (by decide)) ?_
  refine r_istore_n C dX11_clearText_4 rfl rfl ?_
  refine r_aload_n C dX11_clearText_5 rfl ?_
  refine r_iconst C dX11_clearText_6 ic_0 ?_
  refine pf_X11_161 C dX11_clearText_7 hm.1 (hm.k (by decide)) ?_
  refine r_iload_n C dX11_clearText_10 rfl ?_
  exact hE _ _ _ _ dX11_clearText_11 (And.intro rfl rfl)
set_option maxRecDepth 100000 in
set_option maxHeartbeats 4000000 in
theorem c_X11_type {g : mG} {l : Launch} {tpl : mT} {b n : Nat} {v : mV} (hm : isM g tpl b n) (N : Nat) (hN : v 0 6 = nI N) (hN80 : N ≤ 80) (x : Int32) : CT g l tpl b n yX11_type cX11_type 2 (some .int) rm_X11_type [.ref (b + 0), .int x] v (pI (mType v N x).1 (mType v N x).2) := by
  refine CT.introI [some (.ref (b + 0)), some (.int x)] (own := RX11) (by decide +kernel) rfl rfl rfl rfl ?_
  intro p e s m args below meth c Q C hE
  refine r_iload_n C dX11_type_0 rfl ?_
  refine r_bipush C dX11_type_1 bp_32 ?_
  refine r_bipush C dX11_type_3 bp_126 ?_
  refine cvI_X11_32 C dX11_type_5 (c_X11_in _ _ _) ⟨rfl, rfl⟩ rfl rfl rfl ?_
  refine r_if_ne (tgt := 13) C dX11_type_8 rfl (fun c_8 => ?_) (fun c_8 => ?_)
  · skip
    refine r_aload_n C dX11_type_13 rfl ?_
    refine gf_X11_161 C dX11_type_14 hm.1 (hm.k (by decide)) ?_
    refine r_bipush C dX11_type_17 bp_80 ?_
    refine r_icmp_ne (tgt := 25) C dX11_type_19 rfl (fun c_19 => ?_) (fun c_19 => ?_)
    · skip
      have n80 : ¬ N = 80 := fun h => c_19 (by rw [hN, h]; decide +kernel)
      refine r_aload_n C dX11_type_25 rfl ?_
      refine gf_X11_22 C dX11_type_26 hm.1 (hm.k (by decide)) ?_
      refine r_aload_n C dX11_type_29 rfl ?_
      refine gf_X11_161 C dX11_type_30 hm.1 (hm.k (by decide)) ?_
      refine r_iload_n C dX11_type_33 rfl ?_
      refine r_iast C dX11_type_34 hm.2.2.2.2.2.1 (hm.k (by decide)) (j := N) hN (by omega) rfl ?_
      refine r_aload_n C dX11_type_35 rfl ?_
      refine r_dup C dX11_type_36 rfl ?_
      refine gf_X11_161 C dX11_type_37 hm.1 (hm.k (by decide)) ?_
      refine r_iconst C dX11_type_40 ic_1 ?_
      refine r_iadd C dX11_type_41 ?_
      rw [show (u2 v 5 N x) 0 6 + 1 = nI (N + 1) by rw [u2_o (by omega), hN]; exact nI_1 N]
      refine pf_X11_161 C dX11_type_42 hm.1 (hm.k (by decide)) ?_
      skip
      refine r_aload_n C dX11_type_45 rfl ?_
      refine gf_X11_161 C dX11_type_46 hm.1 (hm.k (by decide)) ?_
      rw [show (u2 (u2 v 5 N x) 0 6 (nI (N + 1))) 0 6 = nI (N + 1) by rw [u2_r, upd_r]]
      exact hE _ _ _ _ dX11_type_49 (by simp [pI, mType, c_8, n80])
    · skip
      refine r_bipush C dX11_type_22 bp_m3 ?_
      exact hE _ _ _ _ dX11_type_24 (by have e : N = 80 := (na_eq hN (show (80 : Int32) = nI 80 by decide +kernel) (by omega) (by omega)).mp c_19; simp [pI, mType, c_8, e])
  · skip
    refine r_iconst C dX11_type_11 ic_m1 ?_
    exact hE _ _ _ _ dX11_type_12 (by simp [pI, mType, c_8])
set_option maxRecDepth 100000 in
set_option maxHeartbeats 4000000 in
theorem c_X11_undo {g : mG} {l : Launch} {tpl : mT} {b n : Nat} {v : mV} {σ : Nat → Int32} (hm : isM g tpl b n) (st : Nat) (hst : v 0 4 = nI st) (hst4 : st ≤ 4) : CT g l tpl b n yX11_undo cX11_undo 2 (some .int) rm_X11_undo [.ref (b + 0)] (sv v σ) (pI (mUndo v σ st).1 (mUndo v σ st).2) := by
  refine CT.introI [some (.ref (b + 0)), none] (own := RX11) (by decide +kernel) rfl rfl rfl rfl ?_
  intro p e s m args below meth c Q C hE
  refine r_aload_n C dX11_undo_0 rfl ?_
  refine gf_X11_28 C dX11_undo_1 hm.1 (hm.k (by decide)) ?_
  refine r_if_ne (tgt := 10) C dX11_undo_4 rfl (fun c_4 => ?_) (fun c_4 => ?_)
  · skip
    obtain ⟨s1, rfl⟩ : ∃ s1, st = s1 + 1 := ⟨st - 1, by have : st ≠ 0 := fun h => c_4 (by rw [sv_o (by omega), hst, h]; decide +kernel); omega⟩
    refine r_aload_n C dX11_undo_10 rfl ?_
    refine r_dup C dX11_undo_11 rfl ?_
    refine gf_X11_28 C dX11_undo_12 hm.1 (hm.k (by decide)) ?_
    refine r_iconst C dX11_undo_15 ic_1 ?_
    refine r_isub C dX11_undo_16 ?_
    rw [show sv v σ 0 4 - 1 = nI s1 by rw [sv_o (by omega), hst]; exact nI_pred s1]
    refine pf_X11_28 C dX11_undo_17 hm.1 (hm.k (by decide)) ?_
    rw [mU_0]
    refine r_iconst C dX11_undo_20 ic_0 ?_
    refine r_istore_n C dX11_undo_21 rfl rfl ?_
    have loop_22 : ∀ (r : Nat) (i : Nat), (i + r = 229) → WM g p l e rm_X11_undo s m args below meth c Q tpl b n (sv (u2 v 0 4 (nI s1)) (fU v σ s1 i)) 22 [some (.ref (b + 0)), some (.int (nI i))] [] := by
      intro r
      induction r with
      | zero =>
        intro i hi
        refine r_iload_n C dX11_undo_22 rfl ?_
        refine r_sipush C dX11_undo_23 sp_229 ?_
        refine r_icmp_ge (tgt := 56) C dX11_undo_26 rfl (fun c_26 => ?_) (fun c_26 => ?_)
        · skip
          rw [show i = 229 by omega]
          refine r_aload_n C dX11_undo_56 rfl ?_
          refine gf_X11_28 C dX11_undo_57 hm.1 (hm.k (by decide)) ?_
          rw [show (sv (u2 v 0 4 (nI s1)) (fU v σ s1 229)) 0 4 = nI s1 by rw [sv_o (by omega), u2_r, upd_r]]
          exact hE _ _ _ _ dX11_undo_60 (by rw [mUndo, if_neg (by omega), Nat.add_sub_cancel]; exact And.intro rfl rfl)
        · exact absurd c_26 (nI_nlt (a := i) (b := 229) (by omega) (by omega))
      | succ r ih_22 =>
        intro i hi
        refine r_iload_n C dX11_undo_22 rfl ?_
        refine r_sipush C dX11_undo_23 sp_229 ?_
        refine r_icmp_ge (tgt := 56) C dX11_undo_26 rfl (fun c_26 => ?_) (fun c_26 => ?_)
        · exact absurd (nI_lt (a := i) (b := 229) (by omega) (by omega)) c_26
        · skip
          refine r_aload_n C dX11_undo_29 rfl ?_
          refine gf_X11_7 C dX11_undo_30 hm.1 (hm.k (by decide)) ?_
          refine r_iload_n C dX11_undo_33 rfl ?_
          refine r_aload_n C dX11_undo_34 rfl ?_
          refine gf_X11_19 C dX11_undo_35 hm.1 (hm.k (by decide)) ?_
          refine r_sipush C dX11_undo_38 sp_229 ?_
          refine r_aload_n C dX11_undo_41 rfl ?_
          refine gf_X11_28 C dX11_undo_42 hm.1 (hm.k (by decide)) ?_
          refine r_imul C dX11_undo_45 ?_
          refine r_iload_n C dX11_undo_46 rfl ?_
          refine r_iadd C dX11_undo_47 ?_
          refine r_iald C dX11_undo_48 hm.2.2.2.2.1 (hm.k (by decide)) (j := ((229 * s1) + i)) (na_add (na_mul kn_229 (by rw [sv_o (by omega), u2_r, upd_r])) rfl) (by omega) rfl ?_
          rw [show (sv (u2 v 0 4 (nI s1)) (fU v σ s1 i) 4 (229 * s1 + i)) = v 4 (229 * s1 + i) by rw [sv_o (by omega), u2_o (by omega)]]
          refine r_sst C dX11_undo_49 hm (j := i) rfl (by omega) ?_
          rw [fU_s]
          refine r_iinc C dX11_undo_50 rfl (nI_inc _) rfl ?_
          refine r_goto (tgt := 22) C dX11_undo_53 rfl ?_
          exact ih_22 (i + 1) (by omega)
    exact loop_22 229 0 rfl
  · skip
    refine r_bipush C dX11_undo_7 bp_m2 ?_
    exact hE _ _ _ _ dX11_undo_9 (by have e : st = 0 := (na_eq hst (show (0 : Int32) = nI 0 by decide +kernel) (by omega) (by omega)).mp c_4; rw [mUndo, if_pos e]; exact And.intro rfl rfl)
