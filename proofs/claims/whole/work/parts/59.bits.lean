/-! ===== exceptions; the two means ===== -/
def rsExcept (v : mV) (h : Nat) (x y : Int32) : Int32 × mV := if rsHasP v h x = 0 then (-1, v) else if y < 0 then (-1, v) else if y < 20 then
  (onesI (v (h + (5 + 2 * x.toNatClampNeg)) 1 ^^^ 1 <<< (y &&& 31)), u2 v (h + (5 + 2 * x.toNatClampNeg)) 1 (v (h + (5 + 2 * x.toNatClampNeg)) 1 ^^^ 1 <<< (y &&& 31))) else (-1, v)
theorem rsExcept_out {v : mV} {h q : Nat} {x y : Int32} (hq : q < h + 1 ∨ h + 36 ≤ q) : (rsExcept v h x y).2 q = v q := by
  unfold rsExcept
  split
  · rfl
  · rename_i h0
    obtain ⟨j, hj, rfl⟩ := fIn_of kn_8 (by decide) h0
    rw [nI_clamp (show j < 2 ^ 31 by omega)]
    repeat' split
    all_goals first | rfl | simp (disch := omega) only [u2_o]
theorem bcN_ones {e : Nat} (he : e < 1048576) : nI (bcN e) = onesI (nI e) := by rw [exc_nat he, bc_ok (by omega)]
def zAckBits (v : mV) : Int32 := if 0 < v (1 + 37) 8 then (FP.fdiv (FP.i2f (v (1 + 37) 9)) (FP.i2f (v (1 + 37) 8))).toInt32 else -4
def zUnoBits (v : mV) : Int32 := if 0 < v (1 + 37) 7 then (FP.d2f (FP.ddiv (FP.i2d (v (1 + 37) 6)) (FP.i2d (v (1 + 37) 7)))).toInt32 else -4
def mAckBits (σ : Nat → Int32) : Int32 := if σ 12 = 0 then -4 else (FP.fdiv (FP.i2f (σ 11)) (FP.i2f (σ 12))).toInt32
def mAllN (σ : Nat → Int32) (i : Nat) (a : Int32) : Int32 := a + (if mInc σ (nI i) = 0 then 0 else σ 2 - σ (101 + 16 * i + 7))
def mAll (σ : Nat → Int32) : Int32 := cntLp (mAllN σ) 8 0 (σ 10)
def mUnoBits (σ : Nat → Int32) : Int32 := if mAll σ = 0 then -4 else (FP.d2f (FP.ddiv (FP.i2d (σ 9)) (FP.i2d (mAll σ)))).toInt32
theorem fN_f' {x y : Int32} {a b : Nat} (hx : x = nI a) (hy : y = nI b) (ha : a < 2147483648) (h0 : 0 < b) (hb : b < 2147483648) : fN (FP.fdiv (FP.i2f x) (FP.i2f y)) := by
  subst hx; subst hy
  exact fN_f ha h0 hb
theorem fN_d' {x y : Int32} {a b : Nat} (hx : x = nI a) (hy : y = nI b) (ha : a < 2147483648) (h0 : 0 < b) (hb : b < 2147483648) : fN (FP.d2f (FP.ddiv (FP.i2d x) (FP.i2d y))) ∧ vf_n64 (FP.ddiv (FP.i2d x) (FP.i2d y)) := by
  subst hx; subst hy
  exact fN_d ha h0 hb
set_option maxRecDepth 100000 in
set_option maxHeartbeats 4000000 in
theorem c_X5_turnException {g : mG} {l : Launch} {tpl : mT} {b n : Nat} {v : mV} (h : Nat) (t : isT g tpl b n h) (hX : ∀ k, k < 8 → ∃ e, e < 1048576 ∧ v (h + (5 + 2 * k)) 1 = nI e) (x y : Int32) : CT g l tpl b n yX5_turnException cX5_turnException 3 (some .int) rm_X5_turnException [.ref (b + (h + 1)), .int x, .int y] v (pI (rsExcept v h x y).1 (rsExcept v h x y).2) := by
  refine CT.introI [some (.ref (b + (h + 1))), some (.int x), some (.int y)] (own := RX5) (by decide +kernel) rfl rfl rfl rfl ?_
  intro p e s m args below meth c Q C hE
  refine r_aload_n C dX5_turnException_0 rfl ?_
  refine r_iload_n C dX5_turnException_1 rfl ?_
  refine cvI_X5_65 C dX5_turnException_2 (c_X5_hasPerson h t _) t.1 (t.k (by decide)) ⟨rfl, rfl⟩ rfl rfl rfl ?_
  refine r_if_eq (tgt := 18) C dX5_turnException_5 rfl (fun c_5 => ?_) (fun c_5 => ?_)
  · skip
    refine r_iconst C dX5_turnException_18 ic_m1 ?_
    exact hE _ _ _ _ dX5_turnException_19 (by simp [pI, rsExcept, c_5])
  · skip
    refine r_iload_n C dX5_turnException_8 rfl ?_
    refine r_if_lt (tgt := 18) C dX5_turnException_9 rfl (fun c_9 => ?_) (fun c_9 => ?_)
    · skip
      refine r_iconst C dX5_turnException_18 ic_m1 ?_
      exact hE _ _ _ _ dX5_turnException_19 (by simp [pI, rsExcept, c_5, c_9])
    · skip
      refine r_iload_n C dX5_turnException_12 rfl ?_
      refine r_bipush C dX5_turnException_13 bp_20 ?_
      refine r_icmp_lt (tgt := 20) C dX5_turnException_15 rfl (fun c_15 => ?_) (fun c_15 => ?_)
      · skip
        obtain ⟨j, hj, rfl⟩ := fIn_of kn_8 (by decide) c_5
        have nc : (nI j).toNatClampNeg = j := nI_clamp (by omega)
        obtain ⟨cq, hc, rfl⟩ := na_of kn_20 (by decide) c_9 c_15
        obtain ⟨e0, he, ee⟩ := hX j hj
        have hex := exc_bit (x := v (h + (5 + 2 * j)) 1) (c := cq) he (by omega) ee
        refine r_aload_n C dX5_turnException_20 rfl ?_
        refine gf_X5_11 C dX5_turnException_21 t.1 (t.k (by decide)) ?_
        refine r_iload_n C dX5_turnException_24 rfl ?_
        refine r_aald (t0 := 4) C dX5_turnException_25 t.2.1 rfl (t.k (by decide)) (j := j) rfl hj rfl rfl ?_
        refine r_dup C dX5_turnException_26 rfl ?_
        refine gf_X5_86 C dX5_turnException_27 (t.2.2.2.2.1 j hj).1 (t.2.2.2.2.1 j hj).k ?_
        refine r_iconst C dX5_turnException_30 ic_1 ?_
        refine r_iload_n C dX5_turnException_31 rfl ?_
        refine r_ishl C dX5_turnException_32 ?_
        refine r_ixor C dX5_turnException_33 ?_
        refine pf_X5_86 C dX5_turnException_34 (t.2.2.2.2.1 j hj).1 (t.2.2.2.2.1 j hj).k ?_
        refine r_aload_n C dX5_turnException_37 rfl ?_
        refine gf_X5_11 C dX5_turnException_38 t.1 (t.k (by decide)) ?_
        refine r_iload_n C dX5_turnException_41 rfl ?_
        refine r_aald (t0 := 4) C dX5_turnException_42 t.2.1 rfl (t.k (by decide)) (j := j) rfl hj rfl rfl ?_
        refine gf_X5_86 C dX5_turnException_43 (t.2.2.2.2.1 j hj).1 (t.2.2.2.2.1 j hj).k ?_
        rw [show u2 v (h + (5 + 2 * j)) 1 (v (h + (5 + 2 * j)) 1 ^^^ 1 <<< (nI cq &&& 31)) (h + (5 + 2 * j)) 1 = nI (e0 ^^^ 2 ^ cq) by rw [u2_r, upd_r]; exact hex.1]
        refine cvI_X5_89 C dX5_turnException_46 (c_J6_bitCount_0f7a4 _ (by have := hex.2; omega)) ⟨rfl, rfl⟩ rfl rfl rfl ?_
        exact hE _ _ _ _ dX5_turnException_49 (by rw [rsExcept, if_neg c_5, if_neg c_9, if_pos c_15, nc]; refine And.intro ?_ rfl; simp only []; rw [hex.1, bcN_ones hex.2])
      · skip
        refine r_iconst C dX5_turnException_18 ic_m1 ?_
        exact hE _ _ _ _ dX5_turnException_19 (by simp [pI, rsExcept, c_5, c_9, c_15])
set_option maxRecDepth 100000 in
set_option maxHeartbeats 4000000 in
theorem c_X10_except {g : mG} {l : Launch} {tpl : mT} {b n : Nat} {v : mV} (hz : isZ g tpl b n) (hc : CI v) (hX : ∀ k, k < 8 → ∃ e, e < 1048576 ∧ v (1 + (5 + 2 * k)) 1 = nI e) (x y : Int32) : CT g l tpl b n yX10_except cX10_except 3 (some .int) rm_X10_except [.ref (b + 0), .int x, .int y] v (pI (zSet (rsExcept (zPrep v) 1 x y)).1 (zSet (rsExcept (zPrep v) 1 x y)).2) := by
  refine CT.introI [some (.ref (b + 0)), some (.int x), some (.int y)] (own := RX10) (by decide +kernel) rfl rfl rfl rfl ?_
  intro p e s m args below meth c Q C hE
  refine r_aload_n C dX10_except_0 rfl ?_
  refine gf_X10_22 C dX10_except_1 hz.1 hz.2.2.2.2.2 ?_
  refine r_aload_n C dX10_except_4 rfl ?_
  refine gf_X10_10 C dX10_except_5 hz.1 hz.2.2.2.2.2 ?_
  refine cvV_X10_33 C dX10_except_8 (c_X0_prepare 93 hz.2.2.2.1 1 hz.2.1 (by omega) hc.2.1 hc.2.2.1) hz.2.2.2.1.1 hz.2.2.2.1.k0 ⟨rfl, rfl⟩ rfl rfl rfl ?_
  rw [show hyPrep v 93 1 = zPrep v from rfl]
  refine r_aload_n C dX10_except_11 rfl ?_
  refine r_aload_n C dX10_except_12 rfl ?_
  refine gf_X10_10 C dX10_except_13 hz.1 hz.2.2.2.2.2 ?_
  refine gf_X10_37 C dX10_except_16 hz.2.1.1 hz.2.1.k0 ?_
  refine r_iload_n C dX10_except_19 rfl ?_
  refine r_iload_n C dX10_except_20 rfl ?_
  refine cvI_X10_65 C dX10_except_21 (c_X5_turnException 1 hz.2.1.2.1 (fun k hk => by rw [zPrep_out hc (by omega)]; exact hX k hk) _ _) hz.2.1.2.1.1 (hz.2.1.2.1.k (by decide)) ⟨rfl, rfl⟩ rfl rfl rfl ?_
  refine cvI_X10_47 C dX10_except_24 (c_X10_settled hz (hyPi_of (by rw [rsExcept_out (by omega), zPrep_out hc (by omega)]) hc.2.1) _) hz.1 hz.2.2.2.2.2 ⟨rfl, rfl⟩ rfl rfl rfl ?_
  exact hE _ _ _ _ dX10_except_27 (by unfold zSet; constructor <;> split <;> rfl)
set_option maxRecDepth 100000 in
set_option maxHeartbeats 4000000 in
theorem c_X11_except {g : mG} {l : Launch} {tpl : mT} {b n : Nat} {v : mV} {σ : Nat → Int32} (hm : isM g tpl b n) (hI : MI σ) (hX : ∀ k, k < 8 → ∃ e, e < 1048576 ∧ σ (16 + 5 * k + 2) = nI e) (st : Nat) (hst : v 0 4 = nI st) (hst4 : st ≤ 4) (x y : Int32) : CT g l tpl b n yX11_except cX11_except 3 (some .int) rm_X11_except [.ref (b + 0), .int x, .int y] (sv v σ) (pI (mDone v σ st (mExcs σ x y)).1 (mDone v σ st (mExcs σ x y)).2) := by
  refine CT.introI [some (.ref (b + 0)), some (.int x), some (.int y)] (own := RX11) (by decide +kernel) rfl rfl rfl rfl ?_
  intro p e s m args below meth c Q C hE
  refine r_aload_n C dX11_except_0 rfl ?_
  refine cvV_X11_108 C dX11_except_1 (c_X11_begins hm) hm.1 (hm.k (by decide)) ⟨rfl, rfl⟩ rfl rfl rfl ?_
  refine r_aload_n C dX11_except_4 rfl ?_
  refine r_aload_n C dX11_except_5 rfl ?_
  refine r_iload_n C dX11_except_6 rfl ?_
  refine r_iload_n C dX11_except_7 rfl ?_
  refine cvI_X11_130 C dX11_except_8 (c_X11_excepts hm hI hX _ _) hm.1 (hm.k (by decide)) ⟨rfl, rfl⟩ rfl rfl rfl ?_
  refine cvI_X11_114 C dX11_except_11 (c_X11_acted hm st (by rw [sv_o (by omega), mBegin, cpR_o (by omega)]; exact hst) hst4 _) hm.1 (hm.k (by decide)) ⟨rfl, rfl⟩ rfl rfl rfl ?_
  exact hE _ _ _ _ dX11_except_14 (by unfold mDone; constructor <;> split <;> rfl)
set_option maxRecDepth 100000 in
set_option maxHeartbeats 4000000 in
theorem c_X10_acknowledgeBits {g : mG} {l : Launch} {tpl : mT} {b n : Nat} {v : mV} (hz : isZ g tpl b n) (hc : CI v) (w a : Nat) (hw : v (1 + 37) 9 = nI w) (ha : v (1 + 37) 8 = nI a) (hw31 : w < 2147483648) (ha31 : a < 2147483648) : CT g l tpl b n yX10_acknowledgeBits cX10_acknowledgeBits 2 (some .int) rm_X10_acknowledgeBits [.ref (b + 0)] v (pI (zAckBits v) v) := by
  refine CT.introI [some (.ref (b + 0)), none] (own := RX10) (by decide +kernel) rfl rfl rfl rfl ?_
  intro p e s m args below meth c Q C hE
  refine r_aload_n C dX10_acknowledgeBits_0 rfl ?_
  refine gf_X10_10 C dX10_acknowledgeBits_1 hz.1 hz.2.2.2.2.2 ?_
  refine gf_X10_213 C dX10_acknowledgeBits_4 hz.2.1.1 hz.2.1.k0 ?_
  refine r_astore_n C dX10_acknowledgeBits_7 rfl rfl ?_
  refine r_aload_n C dX10_acknowledgeBits_8 rfl ?_
  refine gf_X10_235 C dX10_acknowledgeBits_9 hz.2.1.2.2.2.1 (hz.2.1.k (by decide)) ?_
  refine r_if_gt (tgt := 18) C dX10_acknowledgeBits_12 rfl (fun c_12 => ?_) (fun c_12 => ?_)
  · skip
    have ha0 : 0 < a := (na_lt kn_0 ha (by omega) (by omega)).mp c_12
    have hN := fN_f' hw ha hw31 ha0 ha31
    refine r_aload_n C dX10_acknowledgeBits_18 rfl ?_
    refine gf_X10_238 C dX10_acknowledgeBits_19 hz.2.1.2.2.2.1 (hz.2.1.k (by decide)) ?_
    refine r_i2f C dX10_acknowledgeBits_22 ?_
    refine r_aload_n C dX10_acknowledgeBits_23 rfl ?_
    refine gf_X10_235 C dX10_acknowledgeBits_24 hz.2.1.2.2.2.1 (hz.2.1.k (by decide)) ?_
    refine r_i2f C dX10_acknowledgeBits_27 ?_
    refine r_fdiv C dX10_acknowledgeBits_28 (fN_nan hN) ?_
    refine cvI_X10_241 C dX10_acknowledgeBits_29 (c_X10_bitsOf _ hN) ⟨rfl, rfl⟩ rfl rfl rfl ?_
    exact hE _ _ _ _ dX10_acknowledgeBits_32 (by rw [zAckBits, if_pos c_12]; exact And.intro rfl rfl)
  · skip
    refine r_bipush C dX10_acknowledgeBits_15 bp_m4 ?_
    exact hE _ _ _ _ dX10_acknowledgeBits_17 (by rw [zAckBits, if_neg c_12]; exact And.intro rfl rfl)
set_option maxRecDepth 100000 in
set_option maxHeartbeats 4000000 in
theorem c_X10_unownedBits {g : mG} {l : Launch} {tpl : mT} {b n : Nat} {v : mV} (hz : isZ g tpl b n) (hc : CI v) (w a : Nat) (hw : v (1 + 37) 6 = nI w) (ha : v (1 + 37) 7 = nI a) (hw31 : w < 2147483648) (ha31 : a < 2147483648) : CT g l tpl b n yX10_unownedBits cX10_unownedBits 2 (some .int) rm_X10_unownedBits [.ref (b + 0)] v (pI (zUnoBits v) v) := by
  refine CT.introI [some (.ref (b + 0)), none] (own := RX10) (by decide +kernel) rfl rfl rfl rfl ?_
  intro p e s m args below meth c Q C hE
  refine r_aload_n C dX10_unownedBits_0 rfl ?_
  refine gf_X10_10 C dX10_unownedBits_1 hz.1 hz.2.2.2.2.2 ?_
  refine gf_X10_213 C dX10_unownedBits_4 hz.2.1.1 hz.2.1.k0 ?_
  refine r_astore_n C dX10_unownedBits_7 rfl rfl ?_
  refine r_aload_n C dX10_unownedBits_8 rfl ?_
  refine gf_X10_245 C dX10_unownedBits_9 hz.2.1.2.2.2.1 (hz.2.1.k (by decide)) ?_
  refine r_if_gt (tgt := 18) C dX10_unownedBits_12 rfl (fun c_12 => ?_) (fun c_12 => ?_)
  · skip
    have ha0 : 0 < a := (na_lt kn_0 ha (by omega) (by omega)).mp c_12
    obtain ⟨hN, hN2⟩ := fN_d' hw ha hw31 ha0 ha31
    refine r_aload_n C dX10_unownedBits_18 rfl ?_
    refine gf_X10_248 C dX10_unownedBits_19 hz.2.1.2.2.2.1 (hz.2.1.k (by decide)) ?_
    refine r_i2d C dX10_unownedBits_22 ?_
    refine r_aload_n C dX10_unownedBits_23 rfl ?_
    refine gf_X10_245 C dX10_unownedBits_24 hz.2.1.2.2.2.1 (hz.2.1.k (by decide)) ?_
    refine r_i2d C dX10_unownedBits_27 ?_
    refine r_ddiv C dX10_unownedBits_28 hN2 ?_
    refine r_d2f C dX10_unownedBits_29 (fN_nan hN) ?_
    refine cvI_X10_241 C dX10_unownedBits_30 (c_X10_bitsOf _ hN) ⟨rfl, rfl⟩ rfl rfl rfl ?_
    exact hE _ _ _ _ dX10_unownedBits_33 (by rw [zUnoBits, if_pos c_12]; exact And.intro rfl rfl)
  · skip
    refine r_bipush C dX10_unownedBits_15 bp_m4 ?_
    exact hE _ _ _ _ dX10_unownedBits_17 (by rw [zUnoBits, if_neg c_12]; exact And.intro rfl rfl)
set_option maxRecDepth 100000 in
set_option maxHeartbeats 4000000 in
theorem c_X11_acknowledgeBits {g : mG} {l : Launch} {tpl : mT} {b n : Nat} {v : mV} {σ : Nat → Int32} (hm : isM g tpl b n) (w a : Nat) (hw : σ 11 = nI w) (ha : σ 12 = nI a) (hw31 : w < 2147483648) (ha31 : a < 2147483648) : CT g l tpl b n yX11_acknowledgeBits cX11_acknowledgeBits 3 (some .int) rm_X11_acknowledgeBits [.ref (b + 0)] (sv v σ) (pI (mAckBits σ) (sv v σ)) := by
  refine CT.introI [some (.ref (b + 0)), none, none] (own := RX11) (by decide +kernel) rfl rfl rfl rfl ?_
  intro p e s m args below meth c Q C hE
  refine r_aload_n C dX11_acknowledgeBits_0 rfl ?_
  refine gf_X11_7 C dX11_acknowledgeBits_1 hm.1 (hm.k (by decide)) ?_
  refine r_bipush C dX11_acknowledgeBits_4 bp_12 ?_
  refine r_sld C dX11_acknowledgeBits_6 hm (j := 12) kn_12 (by omega) ?_
  refine r_if_ne (tgt := 13) C dX11_acknowledgeBits_7 rfl (fun c_7 => ?_) (fun c_7 => ?_)
  · skip
    have ha0 : 0 < a := by
      by_cases hz : a = 0
      · exact absurd (by rw [ha, hz]; decide +kernel) c_7
      · omega
    have hN := fN_f' hw ha hw31 ha0 ha31
    refine r_aload_n C dX11_acknowledgeBits_13 rfl ?_
    refine gf_X11_7 C dX11_acknowledgeBits_14 hm.1 (hm.k (by decide)) ?_
    refine r_bipush C dX11_acknowledgeBits_17 bp_11 ?_
    refine r_sld C dX11_acknowledgeBits_19 hm (j := 11) kn_11 (by omega) ?_
    refine r_i2f C dX11_acknowledgeBits_20 ?_
    refine r_fstore_n C dX11_acknowledgeBits_21 rfl rfl ?_
    refine r_aload_n C dX11_acknowledgeBits_22 rfl ?_
    refine gf_X11_7 C dX11_acknowledgeBits_23 hm.1 (hm.k (by decide)) ?_
    refine r_bipush C dX11_acknowledgeBits_26 bp_12 ?_
    refine r_sld C dX11_acknowledgeBits_28 hm (j := 12) kn_12 (by omega) ?_
    refine r_i2f C dX11_acknowledgeBits_29 ?_
    refine r_fstore_n C dX11_acknowledgeBits_30 rfl rfl ?_
    refine r_fload_n C dX11_acknowledgeBits_31 rfl ?_
    refine r_fload_n C dX11_acknowledgeBits_32 rfl ?_
    refine r_fdiv C dX11_acknowledgeBits_33 (fN_nan hN) ?_
    refine cvI_X11_164 C dX11_acknowledgeBits_34 (c_Jxf58ca_floatToIntBits_5c35a _ hN) ⟨rfl, rfl⟩ rfl rfl rfl ?_
    exact hE _ _ _ _ dX11_acknowledgeBits_37 (by rw [mAckBits, if_neg c_7]; exact And.intro rfl rfl)
  · skip
    refine r_bipush C dX11_acknowledgeBits_10 bp_m4 ?_
    exact hE _ _ _ _ dX11_acknowledgeBits_12 (by rw [mAckBits, if_pos c_7]; exact And.intro rfl rfl)
set_option maxRecDepth 100000 in
set_option maxHeartbeats 4000000 in
theorem c_X11_unownedBits {g : mG} {l : Launch} {tpl : mT} {b n : Nat} {v : mV} {σ : Nat → Int32} (hm : isM g tpl b n) (w a : Nat) (hw : σ 9 = nI w) (ha : mAll σ = nI a) (hw31 : w < 2147483648) (ha31 : a < 2147483648) : CT g l tpl b n yX11_unownedBits cX11_unownedBits 6 (some .int) rm_X11_unownedBits [.ref (b + 0)] (sv v σ) (pI (mUnoBits σ) (sv v σ)) := by
  refine CT.introI [some (.ref (b + 0)), none, none, none, none, none] (own := RX11) (by decide +kernel) rfl rfl rfl rfl ?_
  intro p e s m args below meth c Q C hE
  refine r_aload_n C dX11_unownedBits_0 rfl ?_
  refine gf_X11_7 C dX11_unownedBits_1 hm.1 (hm.k (by decide)) ?_
  refine r_bipush C dX11_unownedBits_4 bp_10 ?_
  refine r_sld C dX11_unownedBits_6 hm (j := 10) kn_10 (by omega) ?_
  refine r_istore_n C dX11_unownedBits_7 rfl rfl ?_
  refine r_iconst C dX11_unownedBits_8 ic_0 ?_
  refine r_istore_n C dX11_unownedBits_9 rfl rfl ?_
  have loop_10 : ∀ (r : Nat) (i : Nat) (q : Int32), (i + r = 8) → (cntLp (mAllN σ) r i q = mAll σ) → WM g p l e rm_X11_unownedBits s m args below meth c Q tpl b n (sv v σ) 10 [some (.ref (b + 0)), some (.int q), some (.int (nI i)), none, none, none] [] := by
    intro r
    induction r with
    | zero =>
      intro i q hi hR
      refine r_iload_n C dX11_unownedBits_10 rfl ?_
      refine r_bipush C dX11_unownedBits_11 bp_8 ?_
      refine r_icmp_ge (tgt := 56) C dX11_unownedBits_13 rfl (fun c_13 => ?_) (fun c_13 => ?_)
      · skip
        have eq : q = mAll σ := hR
        subst eq
        refine r_iload_n C dX11_unownedBits_56 rfl ?_
        refine r_if_ne (tgt := 63) C dX11_unownedBits_57 rfl (fun c_57 => ?_) (fun c_57 => ?_)
        · skip
          have ha0 : 0 < a := by
            by_cases hz : a = 0
            · exact absurd (by rw [ha, hz]; decide +kernel) c_57
            · omega
          obtain ⟨hN, hN2⟩ := fN_d' hw ha hw31 ha0 ha31
          refine r_aload_n C dX11_unownedBits_63 rfl ?_
          refine gf_X11_7 C dX11_unownedBits_64 hm.1 (hm.k (by decide)) ?_
          refine r_bipush C dX11_unownedBits_67 bp_9 ?_
          refine r_sld C dX11_unownedBits_69 hm (j := 9) kn_9 (by omega) ?_
          refine r_i2d C dX11_unownedBits_70 ?_
          refine r_dstore_n C dX11_unownedBits_71 rfl rfl ?_
          refine r_iload_n C dX11_unownedBits_72 rfl ?_
          refine r_i2d C dX11_unownedBits_73 ?_
          refine r_dstore C dX11_unownedBits_74 rfl rfl ?_
          refine r_dload_n C dX11_unownedBits_76 rfl ?_
          refine r_dload C dX11_unownedBits_77 rfl ?_
          refine r_ddiv C dX11_unownedBits_79 hN2 ?_
          refine r_d2f C dX11_unownedBits_80 (fN_nan hN) ?_
          refine cvI_X11_164 C dX11_unownedBits_81 (c_Jxf58ca_floatToIntBits_5c35a _ hN) ⟨rfl, rfl⟩ rfl rfl rfl ?_
          exact hE _ _ _ _ dX11_unownedBits_84 (by rw [mUnoBits, if_neg c_57]; exact And.intro rfl rfl)
        · skip
          refine r_bipush C dX11_unownedBits_60 bp_m4 ?_
          exact hE _ _ _ _ dX11_unownedBits_62 (by rw [mUnoBits, if_pos c_57]; exact And.intro rfl rfl)
      · exact absurd c_13 (nI_nlt (a := i) (b := 8) (by omega) (by omega))
    | succ r ih_10 =>
      intro i q hi hR
      refine r_iload_n C dX11_unownedBits_10 rfl ?_
      refine r_bipush C dX11_unownedBits_11 bp_8 ?_
      refine r_icmp_ge (tgt := 56) C dX11_unownedBits_13 rfl (fun c_13 => ?_) (fun c_13 => ?_)
      · exact absurd (nI_lt (a := i) (b := 8) (by omega) (by omega)) c_13
      · skip
        refine r_iload_n C dX11_unownedBits_16 rfl ?_
        refine r_aload_n C dX11_unownedBits_17 rfl ?_
        refine r_iload_n C dX11_unownedBits_18 rfl ?_
        refine cvI_X11_70 C dX11_unownedBits_19 (c_X11_isIncident hm _) hm.1 (hm.k (by decide)) ⟨rfl, rfl⟩ rfl rfl rfl ?_
        refine r_if_eq (tgt := 47) C dX11_unownedBits_22 rfl (fun c_22 => ?_) (fun c_22 => ?_)
        · skip
          refine r_iconst C dX11_unownedBits_47 ic_0 ?_
          refine r_iadd C dX11_unownedBits_48 ?_
          refine r_istore_n C dX11_unownedBits_49 rfl rfl ?_
          refine r_iinc C dX11_unownedBits_50 rfl (nI_inc _) rfl ?_
          refine r_goto (tgt := 10) C dX11_unownedBits_53 rfl ?_
          exact ih_10 (i + 1) _ (by omega) (by rw [← hR]; simp [cntLp, mAllN, c_13, c_22])
        · skip
          refine r_aload_n C dX11_unownedBits_25 rfl ?_
          refine gf_X11_7 C dX11_unownedBits_26 hm.1 (hm.k (by decide)) ?_
          refine r_iconst C dX11_unownedBits_29 ic_2 ?_
          refine r_sld C dX11_unownedBits_30 hm (j := 2) kn_2 (by omega) ?_
          refine r_aload_n C dX11_unownedBits_31 rfl ?_
          refine gf_X11_7 C dX11_unownedBits_32 hm.1 (hm.k (by decide)) ?_
          refine r_iload_n C dX11_unownedBits_35 rfl ?_
          refine cvI_X11_36 C dX11_unownedBits_36 (c_X11_incidentAt _) ⟨rfl, rfl⟩ rfl rfl rfl ?_
          refine r_bipush C dX11_unownedBits_39 bp_7 ?_
          refine r_iadd C dX11_unownedBits_41 ?_
          refine r_sld C dX11_unownedBits_42 hm (j := ((101 + 16 * i) + 7)) (na_add (na_add kn_101 (na_mul kn_16 rfl)) kn_7) (by omega) ?_
          refine r_isub C dX11_unownedBits_43 ?_
          refine r_goto (tgt := 48) C dX11_unownedBits_44 rfl ?_
          refine r_iadd C dX11_unownedBits_48 ?_
          refine r_istore_n C dX11_unownedBits_49 rfl rfl ?_
          refine r_iinc C dX11_unownedBits_50 rfl (nI_inc _) rfl ?_
          refine r_goto (tgt := 10) C dX11_unownedBits_53 rfl ?_
          exact ih_10 (i + 1) _ (by omega) (by rw [← hR]; simp [cntLp, mAllN, c_13, c_22])
  exact loop_10 8 0 _ rfl rfl
