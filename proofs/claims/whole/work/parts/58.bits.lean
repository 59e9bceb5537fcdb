theorem nI_and (a b : Nat) : nI a &&& nI b = nI (a &&& b) := by
  show (UInt32.ofNat a &&& UInt32.ofNat b).toInt32 = (UInt32.ofNat (a &&& b)).toInt32
  congr 1
  refine UInt32.toNat_inj.mp ?_
  rw [UInt32.toNat_and, UInt32.toNat_ofNat', UInt32.toNat_ofNat', UInt32.toNat_ofNat', Nat.and_mod_two_pow]
theorem nI_xor (a b : Nat) : nI a ^^^ nI b = nI (a ^^^ b) := by
  show (UInt32.ofNat a ^^^ UInt32.ofNat b).toInt32 = (UInt32.ofNat (a ^^^ b)).toInt32
  congr 1
  refine UInt32.toNat_inj.mp ?_
  rw [UInt32.toNat_xor, UInt32.toNat_ofNat', UInt32.toNat_ofNat', UInt32.toNat_ofNat', Nat.xor_mod_two_pow]
theorem sh_nI {x y : Int32} {a k : Nat} (hx : x = nI a) (hy : y = nI k) (ha : a < 2147483648) (hk : k < 32) : (x.toUInt32 >>> (y.toUInt32 &&& Int32.toUInt32 31)).toInt32 = nI (a / 2 ^ k) := by
  subst hx; subst hy
  have h1 : (nI a).toUInt32 = UInt32.ofNat a := rfl
  have h2 : (nI k).toUInt32 &&& Int32.toUInt32 31 = UInt32.ofNat k := by
    refine UInt32.toNat_inj.mp ?_
    rw [UInt32.toNat_and, show (nI k).toUInt32 = UInt32.ofNat k from rfl, UInt32.toNat_ofNat', show (Int32.toUInt32 31).toNat = 2 ^ 5 - 1 by decide, Nat.and_two_pow_sub_one_eq_mod, Nat.mod_eq_of_lt (show k < 2 ^ 32 by omega), Nat.mod_eq_of_lt (show k < 2 ^ 5 by omega)]
  rw [h1, h2]
  show (UInt32.ofNat a >>> UInt32.ofNat k).toInt32 = (UInt32.ofNat (a / 2 ^ k)).toInt32
  congr 1
  refine UInt32.toNat_inj.mp ?_
  have h3 : a / 2 ^ k ≤ a := Nat.div_le_self _ _
  rw [UInt32.toNat_shiftRight, UInt32.toNat_ofNat', UInt32.toNat_ofNat', UInt32.toNat_ofNat', Nat.mod_eq_of_lt (show a < 2 ^ 32 by omega), Nat.mod_eq_of_lt (show k < 2 ^ 32 by omega), Nat.mod_eq_of_lt (show k < 32 by omega), Nat.mod_eq_of_lt (show a / 2 ^ k < 2 ^ 32 by omega), Nat.shiftRight_eq_div_pow]
theorem land24 {a M m : Nat} (ha : a < 16777216) (hM : M < 16777216) : a &&& (M + 16777216 * m) = a &&& M := by
  have := land_split (k := 24) (a := 0) (b := m) (c := a) (d := M) (by omega) (by omega)
  rw [show 2 ^ 24 * 0 + a = a by omega, show 2 ^ 24 * m + M = M + 16777216 * m by omega, Nat.zero_and] at this
  omega
theorem bcI_1 {n : Nat} (h : n < 16777216) : nI n - (nI (n / 2) &&& 1431655765) = nI (bcF1 n) := by
  rw [show (1431655765 : Int32) = nI 1431655765 by decide +kernel, nI_and, show 1431655765 = 5592405 + 16777216 * 85 by decide, land24 (by omega) (by decide)]
  exact (Int32.ofNat_sub _ _ (bc_lt h).1).symm
theorem bcI_2 {n : Nat} (h : n < 16777216) : (nI n &&& 858993459) + (nI (n / 4) &&& 858993459) = nI (bcF2 n) := by
  rw [show (858993459 : Int32) = nI 858993459 by decide +kernel, nI_and, nI_and, show 858993459 = 3355443 + 16777216 * 51 by decide, land24 (by omega) (by decide), land24 (by omega) (by decide), nI_add]
  rfl
theorem bcI_3 {n : Nat} (h : n ≤ 4473924) : (nI n + nI (n / 16)) &&& 252645135 = nI (bcF3 n) := by
  rw [nI_add, show (252645135 : Int32) = nI 252645135 by decide +kernel, nI_and, show 252645135 = 986895 + 16777216 * 15 by decide, land24 (by omega) (by decide)]
  rfl
theorem bcI_4 {m : Nat} : nI m &&& 63 = nI (m % 64) := by
  rw [show (63 : Int32) = nI 63 by decide +kernel, nI_and, show 63 = 2 ^ 6 - 1 by decide, Nat.and_two_pow_sub_one_eq_mod]
theorem bc_le {n : Nat} (h : n < 16777216) : bcF2 (bcF1 n) ≤ 4473924 := by
  obtain ⟨a, b, c, ha, hb, hc, rfl⟩ : ∃ a b c, a < 256 ∧ b < 256 ∧ c < 256 ∧ n = a + 256 * b + 65536 * c := ⟨n % 256, n / 256 % 256, n / 65536, by omega, by omega, by omega, by omega⟩
  have a1 := (bc_q4 a ha).1
  have b1 := (bc_q4 b hb).1
  have c1 := (bc_q4 c hc).1
  rw [bc_1 ha hb hc, bc_2 (bc_byte a ha).2.1 (bc_byte b hb).2.1 (bc_byte c hc).2.1]
  omega
theorem bits_i {e t : Nat} (h2 : e ≤ 253) (ht : t < 8388608) : nI e <<< (23 &&& 31) + nI t = (fB32 (fF e t)).toInt32 := by
  have h : nI e <<< ((23 : Int32) &&& 31) = nI (e * 8388608) := by
    have hs : ∀ e : Nat, e < 254 → nI e <<< ((23 : Int32) &&& 31) = nI (e * 8388608) := by decide +kernel
    exact hs e (by omega)
  rw [h, nI_add]
  rfl
theorem cmp_lt0 {x y : UInt32} {op : CmpOp} (h : FP.Core.fcmp x y = some .lt) : Op.cmpValue (FP.fcmp x y) op = -1 := by
  rw [show FP.fcmp x y = some .lt from h]
  rfl
theorem cmp_ge0 {x y : UInt32} {op : CmpOp} (h : FP.Core.fcmp x y = some .eq ∨ FP.Core.fcmp x y = some .gt) : ¬ Op.cmpValue (FP.fcmp x y) op < 0 := by
  rcases h with h | h
  · rw [show FP.fcmp x y = some .eq from h]; show ¬ ((0 : Int32) < 0); decide
  · rw [show FP.fcmp x y = some .gt from h]; show ¬ ((1 : Int32) < 0); decide
theorem cmp_gt0 {x y : UInt32} {op : CmpOp} (h : FP.Core.fcmp x y = some .gt) : 0 < Op.cmpValue (FP.fcmp x y) op := by
  rw [show FP.fcmp x y = some .gt from h]; show (0 : Int32) < 1; decide
theorem cmp_00 : ¬ 0 < Op.cmpValue (FP.fcmp (fB32 0) (fB32 0)) .l := by decide +kernel
theorem c_half : (1056964608 : UInt32) = fB32 (fF 126 0) := by decide +kernel
theorem c_2p23 : (1258291200 : UInt32) = fB32 (fF 150 0) := by decide +kernel
theorem fn_nan {e t : Nat} (h2 : e ≤ 254) (ht : t < 8388608) : vf_n32 (fB32 (fF e t)) := fl_nan (Nat.le_of_lt (fF_lt h2 ht))
abbrev rm_fl : Room := { frames := 1, cells := 0, slots := 0, locals := 20 }
section CROWSJ
variable {g : mG} {p : Program} {l : Launch} {e : Env} {R : Room} {s : State} {m : MethodId} {args : Array Value} {below : List Frame} {meth : Method} {c : Code} {Q : State → Prop} {tpl : mT} {b n : Nat} {v : mV} {pc : Nat} {L : List (Option Value)} {st : List Value} {own : String} {cc : ByteArray} {rm : Room}
theorem cvI_X5_89 (C : cx g p s m args meth c RX5 cc) {x1 : Value} {z : Int32} {v1 : mV} (hd : decode cc pc = .ok (.invokestatic 89, 3)) (hM : CT g l tpl b n yJ6_bitCount_0f7a4 cJ6_bitCount_0f7a4 1 (some .int) rm [x1] v (pI z v1)) (hr0 : rm.cells = 0 ∧ rm.slots = 0) (hR1 : Nat.ble (rm.frames + 1) R.frames = true) (hR2 : Nat.ble (8 + (1 + 11) + rm.locals) R.locals = true) (hst : Nat.ble ((st.map fun v => v.category).sum) 8 = true) (kk : WM g p l e R s m args below meth c Q tpl b n v1 (pc + 3) L (.int z :: st)) : WM g p l e R s m args below meth c Q tpl b n v pc L (x1 :: st) := r_callS C (as := [x1]) (nas := 1) kw_15_20 kw_15_21 kw_15_22 kw_15_23 ⟨by decide, by decide⟩ (by decide +kernel) hr0 hd hM hR1 hR2 rfl rfl hst (fun r v2 h => by obtain ⟨rfl, rfl⟩ := h; exact kk)
theorem cvI_X11_164 (C : cx g p s m args meth c RX11 cc) {x1 : Value} {z : Int32} {v1 : mV} (hd : decode cc pc = .ok (.invokestatic 164, 3)) (hM : CT g l tpl b n yJxf58ca_floatToIntBits_5c35a cJxf58ca_floatToIntBits_5c35a 1 (some .int) rm [x1] v (pI z v1)) (hr0 : rm.cells = 0 ∧ rm.slots = 0) (hR1 : Nat.ble (rm.frames + 1) R.frames = true) (hR2 : Nat.ble (8 + (1 + 11) + rm.locals) R.locals = true) (hst : Nat.ble ((st.map fun v => v.category).sum) 8 = true) (kk : WM g p l e R s m args below meth c Q tpl b n v1 (pc + 3) L (.int z :: st)) : WM g p l e R s m args below meth c Q tpl b n v pc L (x1 :: st) := r_callS C (as := [x1]) (nas := 1) kw_33_14 kw_33_15 kw_33_16 kw_33_17 ⟨by decide, by decide⟩ (by decide +kernel) hr0 hd hM hR1 hR2 rfl rfl hst (fun r v2 h => by obtain ⟨rfl, rfl⟩ := h; exact kk)
theorem cvI_Jxf58ca_59 (C : cx g p s m args meth c RJxf58ca cc) {x1 : Value} {z : Int32} {v1 : mV} (hd : decode cc pc = .ok (.invokestatic 59, 3)) (hM : CT g l tpl b n yJxf58ca_isNaN_12338 cJxf58ca_isNaN_12338 1 (some .boolean) rm [x1] v (pI z v1)) (hr0 : rm.cells = 0 ∧ rm.slots = 0) (hR1 : Nat.ble (rm.frames + 1) R.frames = true) (hR2 : Nat.ble (8 + (1 + 11) + rm.locals) R.locals = true) (hst : Nat.ble ((st.map fun v => v.category).sum) 8 = true) (kk : WM g p l e R s m args below meth c Q tpl b n v1 (pc + 3) L (.int z :: st)) : WM g p l e R s m args below meth c Q tpl b n v pc L (x1 :: st) := r_callS C (as := [x1]) (nas := 1) kw_33_23 kw_34_0 kw_33_16 kw_34_1 ⟨by decide, by decide⟩ (by decide +kernel) hr0 hd hM hR1 hR2 rfl rfl hst (fun r v2 h => by obtain ⟨rfl, rfl⟩ := h; exact kk)
end CROWSJ
theorem fN_self {x : UInt32} (h : fN x) : FP.Core.fcmp x x = some .eq := by
  rcases h with rfl | ⟨e, t, h1, h2, h3, rfl⟩
  · decide +kernel
  · have a1 := fF_lt (e := e) (by omega) h3
    unfold FP.Core.fcmp FP.Core.cmp
    rw [fB_to (by omega), fF_dec h1 (by omega) h3]
    show some (compare _ _) = _
    exact congrArg some (Int.compare_eq_eq.mpr rfl)
theorem fN_nan {x : UInt32} (h : fN x) : vf_n32 x := by
  rcases h with rfl | ⟨e, t, h1, h2, h3, rfl⟩
  · exact fl_nan (by omega)
  · exact fn_nan (by omega) h3
theorem ones_1 {q : Nat} (hq : q < 16777216) : nI q - nI q / 2 * 2 = nI (q % 2) := by
  rw [show (2 : Int32) = nI 2 by decide +kernel, nI_div (by omega) (by omega), nI_mul]
  exact (Int32.ofNat_sub _ _ (by omega)).symm.trans (by congr 1; omega)
theorem ones_2 {q : Nat} (hq : q < 16777216) : nI q / 2 = nI (q / 2) := by
  rw [show (2 : Int32) = nI 2 by decide +kernel, nI_div (by omega) (by omega)]
def onesI (x : Int32) : Int32 := nI (bcOnes 24 x.toNatClampNeg)
def mExcs (σ : Nat → Int32) (x y : Int32) : Int32 × (Nat → Int32) := if mIn x 0 (σ 0 - 1) = 0 then (-1, σ) else if mIn y 0 19 = 0 then (-1, σ) else
  (onesI (σ (16 + 5 * x.toNatClampNeg + 2) ^^^ 1 <<< (y &&& 31)), upd σ (16 + 5 * x.toNatClampNeg + 2) (σ (16 + 5 * x.toNatClampNeg + 2) ^^^ 1 <<< (y &&& 31)))
theorem exc_sh : ∀ c : Nat, c < 20 → (1 : Int32) <<< (nI c &&& 31) = nI (2 ^ c) ∧ 2 ^ c < 1048576 := by decide +kernel
theorem exc_bit {x : Int32} {e c : Nat} (he : e < 1048576) (hc : c < 20) (hx : x = nI e) : x ^^^ 1 <<< (nI c &&& 31) = nI (e ^^^ 2 ^ c) ∧ e ^^^ 2 ^ c < 1048576 := by
  rw [hx, (exc_sh c hc).1, nI_xor]
  exact ⟨rfl, Nat.xor_lt_two_pow (n := 20) he (exc_sh c hc).2⟩
theorem exc_nat {e : Nat} (he : e < 1048576) : onesI (nI e) = nI (bcOnes 24 e) := by
  unfold onesI
  rw [nI_clamp (by omega)]
set_option maxRecDepth 100000 in
set_option maxHeartbeats 4000000 in
theorem c_J6_bitCount_0f7a4 {g : mG} {l : Launch} {tpl : mT} {b n : Nat} {v : mV} (N : Nat) (hN : N < 16777216) : CT g l tpl b n yJ6_bitCount_0f7a4 cJ6_bitCount_0f7a4 1 (some .int) rm_J6_bitCount_0f7a4 [.int (nI N)] v (pI (nI (bcN N)) v) := by
  refine CT.introI [some (.int (nI N))] (own := RJ6) (by decide +kernel) rfl rfl rfl rfl ?_
  intro p e s m args below meth c Q C hE
  obtain ⟨-, h1, h2a, h3⟩ := bc_lt hN
  have h2 := bc_le hN
  refine r_iload_n C dJ6_bitCount_0f7a4_0 rfl ?_
  refine r_iload_n C dJ6_bitCount_0f7a4_1 rfl ?_
  refine r_iconst C dJ6_bitCount_0f7a4_2 ic_1 ?_
  refine r_iushr C dJ6_bitCount_0f7a4_3 (sh_nI (a := N) (k := 1) rfl (by decide +kernel) (by omega) (by omega)) ?_
  refine r_ldcw C dJ6_bitCount_0f7a4_4 kw_16_0 ?_
  refine r_iand C dJ6_bitCount_0f7a4_7 ?_
  refine r_isub C dJ6_bitCount_0f7a4_8 ?_
  rw [bcI_1 hN]
  refine r_istore_n C dJ6_bitCount_0f7a4_9 rfl rfl ?_
  refine r_iload_n C dJ6_bitCount_0f7a4_10 rfl ?_
  refine r_ldcw C dJ6_bitCount_0f7a4_11 kw_16_1 ?_
  refine r_iand C dJ6_bitCount_0f7a4_14 ?_
  refine r_iload_n C dJ6_bitCount_0f7a4_15 rfl ?_
  refine r_iconst C dJ6_bitCount_0f7a4_16 ic_2 ?_
  refine r_iushr C dJ6_bitCount_0f7a4_17 (sh_nI (a := bcF1 N) (k := 2) rfl (by decide +kernel) (by omega) (by omega)) ?_
  refine r_ldcw C dJ6_bitCount_0f7a4_18 kw_16_1 ?_
  refine r_iand C dJ6_bitCount_0f7a4_21 ?_
  refine r_iadd C dJ6_bitCount_0f7a4_22 ?_
  rw [bcI_2 h1]
  refine r_istore_n C dJ6_bitCount_0f7a4_23 rfl rfl ?_
  refine r_iload_n C dJ6_bitCount_0f7a4_24 rfl ?_
  refine r_iload_n C dJ6_bitCount_0f7a4_25 rfl ?_
  refine r_iconst C dJ6_bitCount_0f7a4_26 ic_4 ?_
  refine r_iushr C dJ6_bitCount_0f7a4_27 (sh_nI (a := bcF2 (bcF1 N)) (k := 4) rfl (by decide +kernel) (by omega) (by omega)) ?_
  refine r_iadd C dJ6_bitCount_0f7a4_28 ?_
  refine r_ldcw C dJ6_bitCount_0f7a4_29 kw_16_2 ?_
  refine r_iand C dJ6_bitCount_0f7a4_32 ?_
  rw [bcI_3 h2]
  refine r_istore_n C dJ6_bitCount_0f7a4_33 rfl rfl ?_
  refine r_iload_n C dJ6_bitCount_0f7a4_34 rfl ?_
  refine r_iload_n C dJ6_bitCount_0f7a4_35 rfl ?_
  refine r_bipush C dJ6_bitCount_0f7a4_36 bp_8 ?_
  refine r_iushr C dJ6_bitCount_0f7a4_38 (sh_nI (a := bcF3 (bcF2 (bcF1 N))) (k := 8) rfl (by decide +kernel) (by omega) (by omega)) ?_
  refine r_iadd C dJ6_bitCount_0f7a4_39 ?_
  rw [nI_add]
  refine r_istore_n C dJ6_bitCount_0f7a4_40 rfl rfl ?_
  refine r_iload_n C dJ6_bitCount_0f7a4_41 rfl ?_
  refine r_iload_n C dJ6_bitCount_0f7a4_42 rfl ?_
  refine r_bipush C dJ6_bitCount_0f7a4_43 bp_16 ?_
  refine r_iushr C dJ6_bitCount_0f7a4_45 (sh_nI (a := bcF3 (bcF2 (bcF1 N)) + bcF3 (bcF2 (bcF1 N)) / 256) (k := 16) rfl (by decide +kernel) (by omega) (by omega)) ?_
  refine r_iadd C dJ6_bitCount_0f7a4_46 ?_
  rw [nI_add]
  refine r_istore_n C dJ6_bitCount_0f7a4_47 rfl rfl ?_
  refine r_iload_n C dJ6_bitCount_0f7a4_48 rfl ?_
  refine r_bipush C dJ6_bitCount_0f7a4_49 bp_63 ?_
  refine r_iand C dJ6_bitCount_0f7a4_51 ?_
  rw [bcI_4]
  exact hE _ _ _ _ dJ6_bitCount_0f7a4_52 (And.intro rfl rfl)
set_option maxRecDepth 100000 in
set_option maxHeartbeats 4000000 in
theorem c_Jxf58ca_isNaN_12338 {g : mG} {l : Launch} {tpl : mT} {b n : Nat} {v : mV} (x : UInt32) (hx : fN x) : CT g l tpl b n yJxf58ca_isNaN_12338 cJxf58ca_isNaN_12338 1 (some .boolean) rm_Jxf58ca_isNaN_12338 [.float x] v (pI 0 v) := by
  refine CTF_introZ [some (.float x)] (own := RJxf58ca) pf_isNaN rfl rfl rfl rfl ?_
  intro p e s m args below meth c Q C hE
  refine r_fload_n C dJxf58ca_isNaN_12338_0 rfl ?_
  refine r_fload_n C dJxf58ca_isNaN_12338_1 rfl ?_
  refine r_fcmp C dJxf58ca_isNaN_12338_2 ?_
  refine r_if_eq (tgt := 10) C dJxf58ca_isNaN_12338_3 rfl (fun c_3 => ?_) (fun c_3 => ?_)
  · skip
    refine r_iconst C dJxf58ca_isNaN_12338_10 ic_0 ?_
    exact hE _ _ _ _ (nar_b (Or.inl rfl)) dJxf58ca_isNaN_12338_11 (And.intro rfl rfl)
  · exact absurd (by rw [show FP.fcmp x x = some .eq from fN_self hx]; rfl) c_3
set_option maxRecDepth 100000 in
set_option maxHeartbeats 4000000 in
theorem c_Jxf58ca_floatToIntBits_5c35a {g : mG} {l : Launch} {tpl : mT} {b n : Nat} {v : mV} (x : UInt32) (hx : fN x) : CT g l tpl b n yJxf58ca_floatToIntBits_5c35a cJxf58ca_floatToIntBits_5c35a 1 (some .int) rm_fl [.float x] v (pI x.toInt32 v) := by
  refine CTF_introI [some (.float x)] (own := RJxf58ca) pf_toBits rfl rfl rfl rfl ?_
  intro p e s m args below meth c Q C hE
  refine r_fload_n C dJxf58ca_floatToIntBits_5c35a_0 rfl ?_
  refine cvI_Jxf58ca_59 C dJxf58ca_floatToIntBits_5c35a_1 (c_Jxf58ca_isNaN_12338 x hx) ⟨rfl, rfl⟩ rfl rfl rfl ?_
  refine r_if_ne (tgt := 12) C dJxf58ca_floatToIntBits_5c35a_4 rfl (fun c_4 => ?_) (fun c_4 => ?_)
  · exact absurd rfl c_4
  · skip
    refine r_fload_n C dJxf58ca_floatToIntBits_5c35a_7 rfl ?_
    refine r_rawBits C dJxf58ca_floatToIntBits_5c35a_8 rfl rfl ?_
    exact hE _ _ _ _ dJxf58ca_floatToIntBits_5c35a_11 (And.intro rfl rfl)
set_option maxRecDepth 100000 in
set_option maxHeartbeats 4000000 in
theorem c_X10_bitsOf {g : mG} {l : Launch} {tpl : mT} {b n : Nat} {v : mV} (x : UInt32) (hx : fN x) : CT g l tpl b n yX10_bitsOf cX10_bitsOf 3 (some .int) rm_X10_bitsOf [.float x] v (pI x.toInt32 v) := by
  refine CT.introI [some (.float x), none, none] (own := RX10) (by decide +kernel) rfl rfl rfl rfl ?_
  intro p e s m args below meth c Q C hE
  refine r_fload_n C dX10_bitsOf_0 rfl ?_
  refine r_fconst0 C dX10_bitsOf_1 ?_
  refine r_fcmp C dX10_bitsOf_2 ?_
  refine r_if_gt (tgt := 8) C dX10_bitsOf_3 rfl (fun c_3 => ?_) (fun c_3 => ?_)
  · skip
    obtain ⟨e0, t, h1, h2, ht, rfl⟩ : ∃ e t, 1 ≤ e ∧ e ≤ 253 ∧ t < 8388608 ∧ x = fB32 (fF e t) := hx.resolve_left (fun h => by subst h; exact cmp_00 c_3)
    refine r_fload_n C dX10_bitsOf_8 rfl ?_
    refine r_fstore_n C dX10_bitsOf_9 rfl rfl ?_
    refine r_bipush C dX10_bitsOf_10 bp_127 ?_
    refine r_istore_n C dX10_bitsOf_12 rfl rfl ?_
    have loop_13 : ∀ (r : Nat) (q X : Nat), (q ≤ 127 + r) → (1 ≤ q) → (q ≤ 253) → (X + q = 127 + e0) → (127 < e0 → 127 ≤ q) → (e0 ≤ 127 → q = e0) → WM g p l e rm_X10_bitsOf s m args below meth c Q tpl b n v 13 [some (.float (fB32 (fF e0 t))), some (.float (fB32 (fF q t))), some (.int (nI X))] [] := by
      intro r
      induction r with
      | zero =>
        intro q X hr q1 q2 hX hh hl
        refine r_fload_n C dX10_bitsOf_13 rfl ?_
        refine r_fconst2 C dX10_bitsOf_14 ?_
        refine r_fcmp C dX10_bitsOf_15 ?_
        refine r_if_lt (tgt := 38) C dX10_bitsOf_16 rfl (fun c_16 => ?_) (fun c_16 => ?_)
        · skip
          have hq9 : q ≤ 127 := by
            by_cases hz : q ≤ 127
            · exact hz
            · exact absurd c_16 (cmp_ge0 (fl_cmp_ge (by omega) (by omega) (by omega) ht))
          have loop_38 : ∀ (r : Nat) (q X : Nat), (127 ≤ q + r) → (1 ≤ q) → (q ≤ 127) → (X + q = 127 + e0) → WM g p l e rm_X10_bitsOf s m args below meth c Q tpl b n v 38 [some (.float (fB32 (fF e0 t))), some (.float (fB32 (fF q t))), some (.int (nI X))] [] := by
            intro r
            induction r with
            | zero =>
              intro q X hr q1 q2 hX
              refine r_fload_n C dX10_bitsOf_38 rfl ?_
              refine r_fconst1 C dX10_bitsOf_39 ?_
              refine r_fcmp C dX10_bitsOf_40 ?_
              refine r_if_ge (tgt := 59) C dX10_bitsOf_41 rfl (fun c_41 => ?_) (fun c_41 => ?_)
              · skip
                have hq7 : q = 127 := by
                  by_cases hz : q < 127
                  · exact absurd (by rw [cmp_lt0 (fl_cmp_lt q1 hz (by omega) ht)]; decide) c_41
                  · omega
                obtain ⟨m0, hm0, hs0, -⟩ := fl_sub ht
                obtain ⟨m1, hm1, hs1, hs2⟩ := fl_tail ht
                subst hq7
                refine r_iload_n C dX10_bitsOf_59 rfl ?_
                refine r_bipush C dX10_bitsOf_60 bp_23 ?_
                refine r_ishl C dX10_bitsOf_62 ?_
                refine r_fload_n C dX10_bitsOf_63 rfl ?_
                refine r_fconst1 C dX10_bitsOf_64 ?_
                refine r_fsub C dX10_bitsOf_65 hs0 (fl_nan hm0) ?_
                refine r_ldcwf C dX10_bitsOf_66 kw_33_9 ?_
                rw [c_2p23]
                refine r_fmul C dX10_bitsOf_69 (by rw [← hs0]; exact hs1) (fl_nan hm1) ?_
                refine r_f2i C dX10_bitsOf_70 hs2 ?_
                refine r_iadd C dX10_bitsOf_71 ?_
                exact hE _ _ _ _ dX10_bitsOf_72 (And.intro (congrArg (fun z => some (Value.int z)) (by rw [show X = e0 by omega]; exact bits_i h2 ht)) rfl)
              · exact absurd c_41 (cmp_ge0 (fl_cmp_ge (by omega) (by omega) (by omega) ht))
            | succ r ih_38 =>
              intro q X hr q1 q2 hX
              refine r_fload_n C dX10_bitsOf_38 rfl ?_
              refine r_fconst1 C dX10_bitsOf_39 ?_
              refine r_fcmp C dX10_bitsOf_40 ?_
              refine r_if_ge (tgt := 59) C dX10_bitsOf_41 rfl (fun c_41 => ?_) (fun c_41 => ?_)
              · skip
                have hq7 : q = 127 := by
                  by_cases hz : q < 127
                  · exact absurd (by rw [cmp_lt0 (fl_cmp_lt q1 hz (by omega) ht)]; decide) c_41
                  · omega
                obtain ⟨m0, hm0, hs0, -⟩ := fl_sub ht
                obtain ⟨m1, hm1, hs1, hs2⟩ := fl_tail ht
                subst hq7
                refine r_iload_n C dX10_bitsOf_59 rfl ?_
                refine r_bipush C dX10_bitsOf_60 bp_23 ?_
                refine r_ishl C dX10_bitsOf_62 ?_
                refine r_fload_n C dX10_bitsOf_63 rfl ?_
                refine r_fconst1 C dX10_bitsOf_64 ?_
                refine r_fsub C dX10_bitsOf_65 hs0 (fl_nan hm0) ?_
                refine r_ldcwf C dX10_bitsOf_66 kw_33_9 ?_
                rw [c_2p23]
                refine r_fmul C dX10_bitsOf_69 (by rw [← hs0]; exact hs1) (fl_nan hm1) ?_
                refine r_f2i C dX10_bitsOf_70 hs2 ?_
                refine r_iadd C dX10_bitsOf_71 ?_
                exact hE _ _ _ _ dX10_bitsOf_72 (And.intro (congrArg (fun z => some (Value.int z)) (by rw [show X = e0 by omega]; exact bits_i h2 ht)) rfl)
              · skip
                have hq8 : q < 127 := by
                  by_cases hz : q < 127
                  · exact hz
                  · exact absurd c_41 (cmp_ge0 (fl_cmp_ge (by omega) (by omega) (by omega) ht))
                refine r_iload_n C dX10_bitsOf_44 rfl ?_
                refine r_iconst C dX10_bitsOf_45 ic_1 ?_
                refine r_icmp_le (tgt := 59) C dX10_bitsOf_46 rfl (fun c_46 => ?_) (fun c_46 => ?_)
                · exact absurd ((na_lt kn_1 rfl (by omega) (by omega)).mpr (by omega)) c_46
                · skip
                  refine r_fload_n C dX10_bitsOf_49 rfl ?_
                  refine r_fconst2 C dX10_bitsOf_50 ?_
                  refine r_fmul C dX10_bitsOf_51 (fl_mul q1 (by omega) (by omega) (by omega) ht (by omega) (by omega)) (fn_nan (by omega) ht) ?_
                  refine r_fstore_n C dX10_bitsOf_52 rfl rfl ?_
                  refine r_iinc C dX10_bitsOf_53 rfl (iinc_m1 _) rfl ?_
                  rw [show nI X - 1 = nI (X - 1) by rw [show X = X - 1 + 1 by omega, nI_pred, Nat.add_sub_cancel]]
                  refine r_goto (tgt := 38) C dX10_bitsOf_56 rfl ?_
                  exact ih_38 (q + 128 - 127) (X - 1) (by omega) (by omega) (by omega) (by omega)
          exact loop_38 127 q X (by omega) q1 hq9 hX
        · exact absurd (by rw [cmp_lt0 (fl_cmp_lt q1 (by omega) (by omega) ht)]; decide) c_16
      | succ r ih_13 =>
        intro q X hr q1 q2 hX hh hl
        refine r_fload_n C dX10_bitsOf_13 rfl ?_
        refine r_fconst2 C dX10_bitsOf_14 ?_
        refine r_fcmp C dX10_bitsOf_15 ?_
        refine r_if_lt (tgt := 38) C dX10_bitsOf_16 rfl (fun c_16 => ?_) (fun c_16 => ?_)
        · skip
          have hq9 : q ≤ 127 := by
            by_cases hz : q ≤ 127
            · exact hz
            · exact absurd c_16 (cmp_ge0 (fl_cmp_ge (by omega) (by omega) (by omega) ht))
          have loop_38 : ∀ (r : Nat) (q X : Nat), (127 ≤ q + r) → (1 ≤ q) → (q ≤ 127) → (X + q = 127 + e0) → WM g p l e rm_X10_bitsOf s m args below meth c Q tpl b n v 38 [some (.float (fB32 (fF e0 t))), some (.float (fB32 (fF q t))), some (.int (nI X))] [] := by
            intro r
            induction r with
            | zero =>
              intro q X hr q1 q2 hX
              refine r_fload_n C dX10_bitsOf_38 rfl ?_
              refine r_fconst1 C dX10_bitsOf_39 ?_
              refine r_fcmp C dX10_bitsOf_40 ?_
              refine r_if_ge (tgt := 59) C dX10_bitsOf_41 rfl (fun c_41 => ?_) (fun c_41 => ?_)
              · skip
                have hq7 : q = 127 := by
                  by_cases hz : q < 127
                  · exact absurd (by rw [cmp_lt0 (fl_cmp_lt q1 hz (by omega) ht)]; decide) c_41
                  · omega
                obtain ⟨m0, hm0, hs0, -⟩ := fl_sub ht
                obtain ⟨m1, hm1, hs1, hs2⟩ := fl_tail ht
                subst hq7
                refine r_iload_n C dX10_bitsOf_59 rfl ?_
                refine r_bipush C dX10_bitsOf_60 bp_23 ?_
                refine r_ishl C dX10_bitsOf_62 ?_
                refine r_fload_n C dX10_bitsOf_63 rfl ?_
                refine r_fconst1 C dX10_bitsOf_64 ?_
                refine r_fsub C dX10_bitsOf_65 hs0 (fl_nan hm0) ?_
                refine r_ldcwf C dX10_bitsOf_66 kw_33_9 ?_
                rw [c_2p23]
                refine r_fmul C dX10_bitsOf_69 (by rw [← hs0]; exact hs1) (fl_nan hm1) ?_
                refine r_f2i C dX10_bitsOf_70 hs2 ?_
                refine r_iadd C dX10_bitsOf_71 ?_
                exact hE _ _ _ _ dX10_bitsOf_72 (And.intro (congrArg (fun z => some (Value.int z)) (by rw [show X = e0 by omega]; exact bits_i h2 ht)) rfl)
              · exact absurd c_41 (cmp_ge0 (fl_cmp_ge (by omega) (by omega) (by omega) ht))
            | succ r ih_38 =>
              intro q X hr q1 q2 hX
              refine r_fload_n C dX10_bitsOf_38 rfl ?_
              refine r_fconst1 C dX10_bitsOf_39 ?_
              refine r_fcmp C dX10_bitsOf_40 ?_
              refine r_if_ge (tgt := 59) C dX10_bitsOf_41 rfl (fun c_41 => ?_) (fun c_41 => ?_)
              · skip
                have hq7 : q = 127 := by
                  by_cases hz : q < 127
                  · exact absurd (by rw [cmp_lt0 (fl_cmp_lt q1 hz (by omega) ht)]; decide) c_41
                  · omega
                obtain ⟨m0, hm0, hs0, -⟩ := fl_sub ht
                obtain ⟨m1, hm1, hs1, hs2⟩ := fl_tail ht
                subst hq7
                refine r_iload_n C dX10_bitsOf_59 rfl ?_
                refine r_bipush C dX10_bitsOf_60 bp_23 ?_
                refine r_ishl C dX10_bitsOf_62 ?_
                refine r_fload_n C dX10_bitsOf_63 rfl ?_
                refine r_fconst1 C dX10_bitsOf_64 ?_
                refine r_fsub C dX10_bitsOf_65 hs0 (fl_nan hm0) ?_
                refine r_ldcwf C dX10_bitsOf_66 kw_33_9 ?_
                rw [c_2p23]
                refine r_fmul C dX10_bitsOf_69 (by rw [← hs0]; exact hs1) (fl_nan hm1) ?_
                refine r_f2i C dX10_bitsOf_70 hs2 ?_
                refine r_iadd C dX10_bitsOf_71 ?_
                exact hE _ _ _ _ dX10_bitsOf_72 (And.intro (congrArg (fun z => some (Value.int z)) (by rw [show X = e0 by omega]; exact bits_i h2 ht)) rfl)
              · skip
                have hq8 : q < 127 := by
                  by_cases hz : q < 127
                  · exact hz
                  · exact absurd c_41 (cmp_ge0 (fl_cmp_ge (by omega) (by omega) (by omega) ht))
                refine r_iload_n C dX10_bitsOf_44 rfl ?_
                refine r_iconst C dX10_bitsOf_45 ic_1 ?_
                refine r_icmp_le (tgt := 59) C dX10_bitsOf_46 rfl (fun c_46 => ?_) (fun c_46 => ?_)
                · exact absurd ((na_lt kn_1 rfl (by omega) (by omega)).mpr (by omega)) c_46
                · skip
                  refine r_fload_n C dX10_bitsOf_49 rfl ?_
                  refine r_fconst2 C dX10_bitsOf_50 ?_
                  refine r_fmul C dX10_bitsOf_51 (fl_mul q1 (by omega) (by omega) (by omega) ht (by omega) (by omega)) (fn_nan (by omega) ht) ?_
                  refine r_fstore_n C dX10_bitsOf_52 rfl rfl ?_
                  refine r_iinc C dX10_bitsOf_53 rfl (iinc_m1 _) rfl ?_
                  rw [show nI X - 1 = nI (X - 1) by rw [show X = X - 1 + 1 by omega, nI_pred, Nat.add_sub_cancel]]
                  refine r_goto (tgt := 38) C dX10_bitsOf_56 rfl ?_
                  exact ih_38 (q + 128 - 127) (X - 1) (by omega) (by omega) (by omega) (by omega)
          exact loop_38 127 q X (by omega) q1 hq9 hX
        · skip
          have hq8 : 128 ≤ q := by
            by_cases hz : 128 ≤ q
            · exact hz
            · exact absurd (by rw [cmp_lt0 (fl_cmp_lt q1 (by omega) (by omega) ht)]; decide) c_16
          refine r_iload_n C dX10_bitsOf_19 rfl ?_
          refine r_sipush C dX10_bitsOf_20 sp_254 ?_
          refine r_icmp_ge (tgt := 38) C dX10_bitsOf_23 rfl (fun c_23 => ?_) (fun c_23 => ?_)
          · exact absurd ((na_lt rfl kn_254 (by omega) (by omega)).mpr (by omega)) c_23
          · skip
            refine r_fload_n C dX10_bitsOf_26 rfl ?_
            refine r_ldcwf C dX10_bitsOf_27 kw_33_8 ?_
            rw [c_half]
            refine r_fmul C dX10_bitsOf_30 (fl_mul q1 (by omega) (by omega) (by omega) ht (by omega) (by omega)) (fn_nan (by omega) ht) ?_
            refine r_fstore_n C dX10_bitsOf_31 rfl rfl ?_
            refine r_iinc C dX10_bitsOf_32 rfl (nI_inc _) rfl ?_
            refine r_goto (tgt := 13) C dX10_bitsOf_35 rfl ?_
            exact ih_13 (q + 126 - 127) (X + 1) (by omega) (by omega) (by omega) (by omega) (by omega) (by omega)
    exact loop_13 e0 e0 127 (by omega) h1 (by omega) (by omega) (by omega) (by omega)
  · skip
    have hx0 : x = fB32 0 := hx.resolve_right (fun h => by obtain ⟨e0, t, h1, h2, ht, rfl⟩ := h; exact c_3 (cmp_gt0 (fl_cmp_0 h1 (by omega) ht)))
    subst hx0
    refine r_iconst C dX10_bitsOf_6 ic_0 ?_
    exact hE _ _ _ _ dX10_bitsOf_7 (And.intro (by decide +kernel) rfl)
set_option maxRecDepth 100000 in
set_option maxHeartbeats 4000000 in
theorem c_X11_ones {g : mG} {l : Launch} {tpl : mT} {b n : Nat} {v : mV} (N : Nat) (hN : N < 16777216) : CT g l tpl b n yX11_ones cX11_ones 3 (some .int) rm_X11_ones [.int (nI N)] v (pI (nI (bcOnes 24 N)) v) := by
  refine CT.introI [some (.int (nI N)), none, none] (own := RX11) (by decide +kernel) rfl rfl rfl rfl ?_
  intro p e s m args below meth c Q C hE
  refine r_iconst C dX11_ones_0 ic_0 ?_
  refine r_istore_n C dX11_ones_1 rfl rfl ?_
  refine r_iload_n C dX11_ones_2 rfl ?_
  refine r_istore_n C dX11_ones_3 rfl rfl ?_
  have loop_4 : ∀ (r : Nat) (a q : Nat), (r ≤ 24) → (q < 2 ^ r) → (a + bcOnes r q = bcOnes 24 N) → WM g p l e rm_X11_ones s m args below meth c Q tpl b n v 4 [some (.int (nI N)), some (.int (nI a)), some (.int (nI q))] [] := by
    intro r
    induction r with
    | zero =>
      intro a q hr hq hR
      have hq24 : q < 16777216 := Nat.lt_of_lt_of_le hq (Nat.le_trans (Nat.pow_le_pow_right (by omega) hr) (by decide))
      refine r_iload_n C dX11_ones_4 rfl ?_
      refine r_if_le (tgt := 21) C dX11_ones_5 rfl (fun c_5 => ?_) (fun c_5 => ?_)
      · skip
        refine r_iload_n C dX11_ones_21 rfl ?_
        exact hE _ _ _ _ dX11_ones_22 (And.intro (congrArg (fun z => some (Value.int z)) (by rw [← hR, show q = 0 by first | (have : q < 1 := hq; omega) | (by_cases hz : q = 0; exact hz; exact absurd ((na_lt kn_0 rfl (by omega) (by omega)).mpr (by omega)) c_5)] ; simp [bcOnes_0])) rfl)
      · exact absurd c_5 (by rw [show q = 0 by have : q < 1 := hq; omega]; decide)
    | succ r ih_4 =>
      intro a q hr hq hR
      have hq24 : q < 16777216 := Nat.lt_of_lt_of_le hq (Nat.le_trans (Nat.pow_le_pow_right (by omega) hr) (by decide))
      refine r_iload_n C dX11_ones_4 rfl ?_
      refine r_if_le (tgt := 21) C dX11_ones_5 rfl (fun c_5 => ?_) (fun c_5 => ?_)
      · skip
        refine r_iload_n C dX11_ones_21 rfl ?_
        exact hE _ _ _ _ dX11_ones_22 (And.intro (congrArg (fun z => some (Value.int z)) (by rw [← hR, show q = 0 by first | (have : q < 1 := hq; omega) | (by_cases hz : q = 0; exact hz; exact absurd ((na_lt kn_0 rfl (by omega) (by omega)).mpr (by omega)) c_5)] ; simp [bcOnes_0])) rfl)
      · skip
        refine r_iload_n C dX11_ones_8 rfl ?_
        refine r_iload_n C dX11_ones_9 rfl ?_
        refine r_iconst C dX11_ones_10 ic_2 ?_
        refine r_irem C dX11_ones_11 (by decide) ?_
        refine r_iadd C dX11_ones_12 ?_
        refine r_istore_n C dX11_ones_13 rfl rfl ?_
        refine r_iload_n C dX11_ones_14 rfl ?_
        refine r_iconst C dX11_ones_15 ic_2 ?_
        refine r_idiv C dX11_ones_16 (by decide) ?_
        refine r_istore_n C dX11_ones_17 rfl rfl ?_
        refine r_goto (tgt := 4) C dX11_ones_18 rfl ?_
        rw [ones_1 hq24, ones_2 hq24, nI_add]
        exact ih_4 (a + q % 2) (q / 2) (by omega) (by rw [Nat.pow_succ] at hq; omega) (by rw [← hR, bcOnes]; omega)
  exact loop_4 24 0 N (by omega) hN (by omega)
set_option maxRecDepth 100000 in
set_option maxHeartbeats 4000000 in
theorem c_X11_excepts {g : mG} {l : Launch} {tpl : mT} {b n : Nat} {v : mV} {σ : Nat → Int32} (hm : isM g tpl b n) (hI : MI σ) (hX : ∀ k, k < 8 → ∃ e, e < 1048576 ∧ σ (16 + 5 * k + 2) = nI e) (x y : Int32) : CT g l tpl b n yX11_excepts cX11_excepts 3 (some .int) rm_X11_excepts [.ref (b + 0), .int x, .int y] (sv v σ) (pI (mExcs σ x y).1 (sv v (mExcs σ x y).2)) := by
  refine CT.introI [some (.ref (b + 0)), some (.int x), some (.int y)] (own := RX11) (by decide +kernel) rfl rfl rfl rfl ?_
  intro p e s m args below meth c Q C hE
  refine r_aload_n C dX11_excepts_0 rfl ?_
  refine r_iload_n C dX11_excepts_1 rfl ?_
  refine cvI_X11_80 C dX11_excepts_2 (c_X11_isPerson hm _) hm.1 (hm.k (by decide)) ⟨rfl, rfl⟩ rfl rfl rfl ?_
  refine r_if_eq (tgt := 18) C dX11_excepts_5 rfl (fun c_5 => ?_) (fun c_5 => ?_)
  · skip
    refine r_iconst C dX11_excepts_18 ic_m1 ?_
    exact hE _ _ _ _ dX11_excepts_19 (by simp [pI, mExcs, c_5])
  · skip
    refine r_iload_n C dX11_excepts_8 rfl ?_
    refine r_iconst C dX11_excepts_9 ic_0 ?_
    refine r_bipush C dX11_excepts_10 bp_19 ?_
    refine cvI_X11_32 C dX11_excepts_12 (c_X11_in _ _ _) ⟨rfl, rfl⟩ rfl rfl rfl ?_
    refine r_if_ne (tgt := 20) C dX11_excepts_15 rfl (fun c_15 => ?_) (fun c_15 => ?_)
    · skip
      obtain ⟨j, hj, rfl⟩ := mIn_P hI c_5
      have nc : (nI j).toNatClampNeg = j := nI_clamp (by omega)
      obtain ⟨cq, hc, rfl⟩ : ∃ c : Nat, c ≤ 19 ∧ y = nI c := mIn_le (n := 19) (by decide +kernel) c_15
      obtain ⟨e0, he, ee⟩ := hX j hj
      have hex := exc_bit (x := σ (16 + 5 * j + 2)) (c := cq) he (by omega) ee
      refine r_aload_n C dX11_excepts_20 rfl ?_
      refine gf_X11_7 C dX11_excepts_21 hm.1 (hm.k (by decide)) ?_
      refine r_bipush C dX11_excepts_24 bp_16 ?_
      refine r_iconst C dX11_excepts_26 ic_5 ?_
      refine r_iload_n C dX11_excepts_27 rfl ?_
      refine r_imul C dX11_excepts_28 ?_
      refine r_iadd C dX11_excepts_29 ?_
      refine r_iconst C dX11_excepts_30 ic_2 ?_
      refine r_iadd C dX11_excepts_31 ?_
      refine r_dup2 C dX11_excepts_32 rfl rfl ?_
      refine r_sld C dX11_excepts_33 hm (j := ((16 + (5 * j)) + 2)) (na_add (na_add kn_16 (na_mul kn_5 rfl)) kn_2) (by omega) ?_
      refine r_iconst C dX11_excepts_34 ic_1 ?_
      refine r_iload_n C dX11_excepts_35 rfl ?_
      refine r_ishl C dX11_excepts_36 ?_
      refine r_ixor C dX11_excepts_37 ?_
      refine r_sst C dX11_excepts_38 hm (j := ((16 + (5 * j)) + 2)) (na_add (na_add kn_16 (na_mul kn_5 rfl)) kn_2) (by omega) ?_
      refine r_aload_n C dX11_excepts_39 rfl ?_
      refine r_iload_n C dX11_excepts_40 rfl ?_
      refine r_iconst C dX11_excepts_41 ic_2 ?_
      refine cvI_X11_54 C dX11_excepts_42 (c_X11_ofWho hm _ _ j 2 rfl kn_2 (by omega)) hm.1 (hm.k (by decide)) ⟨rfl, rfl⟩ rfl rfl rfl ?_
      rw [show upd σ (16 + 5 * j + 2) (σ (16 + 5 * j + 2) ^^^ 1 <<< (nI cq &&& 31)) (16 + 5 * j + 2) = nI (e0 ^^^ 2 ^ cq) by rw [upd_r]; exact hex.1]
      refine cvI_X11_86 C dX11_excepts_45 (c_X11_ones _ (by have := hex.2; omega)) ⟨rfl, rfl⟩ rfl rfl rfl ?_
      exact hE _ _ _ _ dX11_excepts_48 (by rw [mExcs, if_neg c_5, if_neg c_15, nc]; simp only []; refine And.intro ?_ rfl; rw [hex.1, exc_nat (by have := hex.2; omega)])
    · skip
      refine r_iconst C dX11_excepts_18 ic_m1 ?_
      exact hE _ _ _ _ dX11_excepts_19 (by simp [pI, mExcs, c_5, c_15])
