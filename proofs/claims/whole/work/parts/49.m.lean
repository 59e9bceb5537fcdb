/-! ===== the reference: here, must ===== -/
def mHere (v : mV) (a N : Nat) : Int32 := if a < N then v 5 a else -1
def mMust (v : mV) (a N : Nat) (x : Int32) : mV := u2 (u2 v 0 8 (if v 0 8 = 0 then 0 else if mHere v a N = x then 1 else 0)) 0 7 (nI (a + 1))
set_option maxRecDepth 100000 in
set_option maxHeartbeats 4000000 in
theorem c_X11_here {g : mG} {l : Launch} {tpl : mT} {b n : Nat} {v : mV} (hm : isM g tpl b n) (N : Nat) (hN : v 0 6 = nI N) (hN80 : N ≤ 80) (a : Nat) (ha : v 0 7 = nI a) (ha9 : a < 10000) : CT g l tpl b n yX11_here cX11_here 1 (some .int) rm_X11_here [.ref (b + 0)] v (pI (mHere v a N) v) := by
  refine CT.introI [some (.ref (b + 0))] (own := RX11) (by decide +kernel) rfl rfl rfl rfl ?_
  intro p e s m args below meth c Q C hE
  refine r_aload_n C dX11_here_0 rfl ?_
  refine gf_X11_170 C dX11_here_1 hm.1 (hm.k (by decide)) ?_
  refine r_aload_n C dX11_here_4 rfl ?_
  refine gf_X11_161 C dX11_here_5 hm.1 (hm.k (by decide)) ?_
  refine r_icmp_ge (tgt := 23) C dX11_here_8 rfl (fun c_8 => ?_) (fun c_8 => ?_)
  · skip
    have hl : ¬ a < N := fun h => c_8 ((na_lt ha hN (by omega) (by omega)).mpr h)
    refine r_iconst C dX11_here_23 ic_m1 ?_
    exact hE _ _ _ _ dX11_here_24 (And.intro (congrArg (fun z => some (Value.int z)) (by unfold mHere; first | rw [if_pos hl] | rw [if_neg hl])) rfl)
  · skip
    have hl : a < N := (na_lt ha hN (by omega) (by omega)).mp c_8
    refine r_aload_n C dX11_here_11 rfl ?_
    refine gf_X11_22 C dX11_here_12 hm.1 (hm.k (by decide)) ?_
    refine r_aload_n C dX11_here_15 rfl ?_
    refine gf_X11_170 C dX11_here_16 hm.1 (hm.k (by decide)) ?_
    refine r_iald C dX11_here_19 hm.2.2.2.2.2.1 (hm.k (by decide)) (j := a) ha (by omega) rfl ?_
    refine r_goto (tgt := 24) C dX11_here_20 rfl ?_
    exact hE _ _ _ _ dX11_here_24 (And.intro (congrArg (fun z => some (Value.int z)) (by unfold mHere; first | rw [if_pos hl] | rw [if_neg hl])) rfl)
set_option maxRecDepth 100000 in
set_option maxHeartbeats 4000000 in
theorem c_X11_must {g : mG} {l : Launch} {tpl : mT} {b n : Nat} {v : mV} (hm : isM g tpl b n) (N : Nat) (hN : v 0 6 = nI N) (hN80 : N ≤ 80) (a : Nat) (ha : v 0 7 = nI a) (ha9 : a < 10000) (x : Int32) : CT g l tpl b n yX11_must cX11_must 2 none rm_X11_must [.ref (b + 0), .int x] v (pV (mMust v a N x)) := by
  refine CT.introV [some (.ref (b + 0)), some (.int x)] (own := RX11) (by decide +kernel) rfl rfl rfl rfl ?_
  intro p e s m args below meth c Q C hE
  refine r_aload_n C dX11_must_0 rfl ?_
  refine r_aload_n C dX11_must_1 rfl ?_
  refine gf_X11_173 C dX11_must_2 hm.1 (hm.k (by decide)) ?_
  refine r_if_eq (tgt := 20) C dX11_must_5 rfl (fun c_5 => ?_) (fun c_5 => ?_)
  · skip
    refine r_iconst C dX11_must_20 ic_0 ?_
    refine pf_X11_173 C (Or.inl rfl) dX11_must_21 hm.1 (hm.k (by decide)) ?_
    skip
    refine r_aload_n C dX11_must_24 rfl ?_
    refine r_dup C dX11_must_25 rfl ?_
    refine gf_X11_170 C dX11_must_26 hm.1 (hm.k (by decide)) ?_
    refine r_iconst C dX11_must_29 ic_1 ?_
    refine r_iadd C dX11_must_30 ?_
    rw [show ∀ z, (u2 v 0 8 z) 0 7 + 1 = nI (a + 1) from fun z => by rw [u2_r, upd_o (by omega), ha]; exact nI_1 a]
    refine pf_X11_170 C dX11_must_31 hm.1 (hm.k (by decide)) ?_
    exact hE _ _ _ dX11_must_34 (And.intro rfl (by unfold mMust; first | rw [if_pos c_5] | rw [if_neg c_5, if_pos c_13] | rw [if_neg c_5, if_neg c_13]))
  · skip
    refine r_aload_n C dX11_must_8 rfl ?_
    refine cvI_X11_177 C dX11_must_9 (c_X11_here hm N hN hN80 a ha ha9) hm.1 (hm.k (by decide)) ⟨rfl, rfl⟩ rfl rfl rfl ?_
    refine r_iload_n C dX11_must_12 rfl ?_
    refine r_icmp_ne (tgt := 20) C dX11_must_13 rfl (fun c_13 => ?_) (fun c_13 => ?_)
    · skip
      refine r_iconst C dX11_must_20 ic_0 ?_
      refine pf_X11_173 C (Or.inl rfl) dX11_must_21 hm.1 (hm.k (by decide)) ?_
      skip
      refine r_aload_n C dX11_must_24 rfl ?_
      refine r_dup C dX11_must_25 rfl ?_
      refine gf_X11_170 C dX11_must_26 hm.1 (hm.k (by decide)) ?_
      refine r_iconst C dX11_must_29 ic_1 ?_
      refine r_iadd C dX11_must_30 ?_
      rw [show ∀ z, (u2 v 0 8 z) 0 7 + 1 = nI (a + 1) from fun z => by rw [u2_r, upd_o (by omega), ha]; exact nI_1 a]
      refine pf_X11_170 C dX11_must_31 hm.1 (hm.k (by decide)) ?_
      exact hE _ _ _ dX11_must_34 (And.intro rfl (by unfold mMust; first | rw [if_pos c_5] | rw [if_neg c_5, if_pos c_13] | rw [if_neg c_5, if_neg c_13]))
    · skip
      refine r_iconst C dX11_must_16 ic_1 ?_
      refine r_goto (tgt := 21) C dX11_must_17 rfl ?_
      refine pf_X11_173 C (Or.inr rfl) dX11_must_21 hm.1 (hm.k (by decide)) ?_
      skip
      refine r_aload_n C dX11_must_24 rfl ?_
      refine r_dup C dX11_must_25 rfl ?_
      refine gf_X11_170 C dX11_must_26 hm.1 (hm.k (by decide)) ?_
      refine r_iconst C dX11_must_29 ic_1 ?_
      refine r_iadd C dX11_must_30 ?_
      rw [show ∀ z, (u2 v 0 8 z) 0 7 + 1 = nI (a + 1) from fun z => by rw [u2_r, upd_o (by omega), ha]; exact nI_1 a]
      refine pf_X11_170 C dX11_must_31 hm.1 (hm.k (by decide)) ?_
      exact hE _ _ _ dX11_must_34 (And.intro rfl (by unfold mMust; first | rw [if_pos c_5] | rw [if_neg c_5, if_pos c_13] | rw [if_neg c_5, if_neg c_13]))
