/-! ===== Script, History: more rows, templates ===== -/
section ROWS3
variable {g : mG} {p : Program} {l : Launch} {e : Env} {R : Room} {s : State} {m : MethodId} {args : Array Value} {below : List Frame} {meth : Method} {c : Code} {Q : State → Prop} {tpl : mT} {b n : Nat} {v : mV} {pc : Nat} {L : List (Option Value)} {st : List Value} {own : String} {cc : ByteArray}
theorem i32_ne {x y : Int32} (h : ¬ x = y) : ¬ x.toInt = y.toInt := fun z => h (Int32.toInt_inj.mp z)
theorem r_lswd (C : cx g p s m args meth c own cc) {dflt : Int} {ps : Array (Int × Int)} {len : Nat} {x : Int32} {tgt : Nat} (hd : decode cc pc = .ok (.lookupswitch dflt ps, len)) (ho : Op.lookupswitch.offset ps.toList dflt x.toInt = dflt) (hp : (ps.toList.zip (ps.toList.drop 1)).all (fun (a, next) => a.1 < next.1) = true) (ht : (pc : Int) + dflt = (tgt : Int)) (kk : WM g p l e R s m args below meth c Q tpl b n v tgt L st) : WM g p l e R s m args below meth c Q tpl b n v pc L (.int x :: st) := fun H locs ls hP hS hl hm => lv_lookup C.1 C.2.1 hd hp ho ht (kk H locs ls hP hS hl hm)
theorem r_aaldD (C : cx g p s m args meth c own cc) {k sz j a : Nat} {t0 : Nat} {Cn : String} {F : (Nat → Int32) → Nat → Option Nat} {i : Int32} (hd : decode cc pc = .ok (.aaload, 1)) (ht : tpl k = fun f => .inl (g.2 t0, sz, .inr (.inr (.inr (.inr (F f)))))) (hty : (tysG g)[t0]? = some (g.2 t0, .object Cn)) (hk : k < n) (hi : i = nI j) (hj : j < sz) (hz : Nat.ble sz 1000 = true) (hf : F (v k) j = some a) (kk : WM g p l e R s m args below meth c Q tpl b n v (pc + 1) L (.ref a :: st)) : WM g p l e R s m args below meth c Q tpl b n v pc L (.int i :: .ref (b + k) :: st) := fun H locs ls hP hS hl hm => by
  have hz := Nat.le_of_ble_eq_true hz
  obtain ⟨h1, h2⟩ := ix_in hi hj (by omega)
  refine va_aldq (D := g.1) (ws := mW b n tpl v) (n := sz) (f := F (v k)) C.1 C.2.1 C.2.2.2.2.1.1 hP k t0 (mW_getE hk (by rw [ht])) hty h1 hd ?_
  rw [h2, hf]
  exact kk H locs ls hP hS hl hm
theorem r_aast (C : cx g p s m args meth c own cc) {k sz j ka ci : Nat} {t0 : Nat} {q : vw_C} {F : (Nat → Int32) → Nat → Option Nat} {Fo : (Nat → Int32) → List Value} {i y : Int32} (hd : decode cc pc = .ok (.aastore, 1)) (ht : tpl k = fun f => .inl (g.2 t0, sz, .inr (.inr (.inr (.inr (F f)))))) (hty : (tysG g)[t0]? = some (g.2 t0, .object q.1)) (hk : k < n) (hi : i = nI j) (hj : j < sz) (hz : Nat.ble sz 1000 = true) (hto : tpl ka = fun f => .inr (ci, Fo f)) (hka : ka < n) (hc : vwCl[ci]? = some q) (hF : ∀ f, va_up (F f) j (some (b + ka)) = F (upd f j y)) (kk : WM g p l e R s m args below meth c Q tpl b n (u2 v k j y) (pc + 1) L st) : WM g p l e R s m args below meth c Q tpl b n v pc L (.ref (b + ka) :: .int i :: .ref (b + k) :: st) := fun H locs ls hP hS hl hm => by
  have hz := Nat.le_of_ble_eq_true hz
  obtain ⟨h1, h2⟩ := ix_in hi hj (by omega)
  refine va_astq (D := g.1) (ws := mW b n tpl v) (A := aR b n) (r := q) (n := sz) (f := F (v k)) C.1 C.2.1 C.2.2.2.2.1.1 hP mW_D hS k t0 ka ci (mW_getE hk (by rw [ht])) hty (mW_getE hka (by rw [hto])) hc h1 hd (fun H1 locs1 hP1 _ hS1 => kk H1 locs1 ls ?_ hS1 hl hm)
  rw [h2, hF, mW_set hk (by rw [ht])] at hP1
  exact hP1
end ROWS3
abbrev tScript (b c : Nat) : (Nat → Int32) → va_E := fun f => .inr (6, [.ref (b + (c + 1)), .ref (b + (c + 2)), .int (f 2), .int (f 3), .int (f 4), .int (f 5), .int (f 6)])
abbrev tSigns (g : mG) : (Nat → Int32) → va_E := fun f => .inl (g.2 1, 80, .inl f)
abbrev tNums (g : mG) : (Nat → Int32) → va_E := fun f => .inl (g.2 0, 3, .inl f)
def isS (g : mG) (tpl : mT) (b n c : Nat) : Prop := tpl c = tScript b c ∧ tpl (c + 1) = tSigns g ∧ tpl (c + 2) = tNums g ∧ c + 3 ≤ n
theorem isS.k {g : mG} {tpl : mT} {b n c : Nat} (h : isS g tpl b n c) {j : Nat} (hj : j < 3) : c + j < n := by have := h.2.2.2; omega
theorem isS.k0 {g : mG} {tpl : mT} {b n c : Nat} (h : isS g tpl b n c) : c < n := by have := h.2.2.2; omega
abbrev tHist (b c : Nat) : (Nat → Int32) → va_E := fun f => .inr (0, [.ref (b + (c + 1)), .int (f 1)])
abbrev tStates (g : mG) (b c : Nat) : (Nat → Int32) → va_E := fun f => .inl (g.2 2, 5, .inr (.inr (.inr (.inr (fun i => some (b + (c + (2 + 46 * (f i).toNatClampNeg))))))))
def isY (g : mG) (tpl : mT) (b n c : Nat) : Prop := tpl c = tHist b c ∧ tpl (c + 1) = tStates g b c ∧ (∀ q, q < 5 → isH g tpl b n (c + (2 + 46 * q))) ∧ c + 232 ≤ n
theorem isY.k {g : mG} {tpl : mT} {b n c : Nat} (h : isY g tpl b n c) {j : Nat} (hj : j < 232) : c + j < n := by have := h.2.2.2; omega
theorem isY.k0 {g : mG} {tpl : mT} {b n c : Nat} (h : isY g tpl b n c) : c < n := by have := h.2.2.2; omega
/-! what the script's reading answers -/
def scSign (v : mV) (c : Nat) (x : Int32) : Int32 := if x < 0 then 0 else if x < v c 2 then (if x < 80 then v (c + 1) x.toNatClampNeg else 0) else 0
def scDigit (x : Int32) : Int32 := if x < 48 then 0 else if 57 < x then 0 else 1
theorem scDigit_01 (x : Int32) : scDigit x = 0 ∨ scDigit x = 1 := by
  unfold scDigit
  repeat' split
  all_goals simp
def scMany (x : Int32) : Int32 := if x = 97 then 2 else if x = 107 then 1 else if x = 111 then 3 else if x = 114 then 1 else if x = 116 then 1 else 0
def scReason (x : Int32) : Int32 := if x < 0 then (if x = -1 then 2 else 3) else -1
def scDig (v : mV) (c : Nat) : Nat → Nat → Int32 → Nat × Int32
  | 0, a, x => (a, x)
  | r + 1, a, x => if scDigit (scSign v c (nI a)) = 0 then (a, x) else scDig v c r (a + 1) (x * 10 + (scSign v c (nI a) - 48))
theorem scDig_le (v : mV) (c : Nat) : ∀ (r a : Nat) (x : Int32), a ≤ (scDig v c r a x).1 ∧ (scDig v c r a x).1 ≤ a + r
  | 0, a, x => ⟨Nat.le_refl a, Nat.le_refl a⟩
  | r + 1, a, x => by
    unfold scDig
    split
    · exact ⟨Nat.le_refl a, Nat.le_add_right _ _⟩
    · have := scDig_le v c r (a + 1) (x * 10 + (scSign v c (nI a) - 48))
      omega
def scNum (v : mV) (c s : Nat) (ix e : Int32) : Int32 × mV :=
  if (scDig v c 3 s 0).1 = s then (-1, v) else if scSign v c (nI (scDig v c 3 s 0).1) = e then (if ix < 0 then (-1, v) else if ix < 3 then (nI ((scDig v c 3 s 0).1 + 1), u2 v (c + 2) ix.toNatClampNeg (scDig v c 3 s 0).2) else (-1, v)) else (-1, v)
def chOK (v : mV) (c : Nat) : Prop := ∀ j, j < 80 → narrow .char (.int (v (c + 1) j)) = .int (v (c + 1) j)
theorem chOK_sign {v : mV} {c : Nat} (h : chOK v c) (x : Int32) : narrow .char (.int (scSign v c x)) = .int (scSign v c x) := by
  unfold scSign
  split
  · rfl
  · split
    · split
      · rename_i h0 _ h2
        obtain ⟨j, hj, rfl⟩ := na_of (j := 80) kn_80 (by decide) h0 h2
        rw [nI_clamp (by omega)]
        exact h j hj
      · rfl
    · rfl
set_option maxRecDepth 100000 in
set_option maxHeartbeats 4000000 in
theorem c_X6_append {g : mG} {l : Launch} {tpl : mT} {b n : Nat} {v : mV} (k : Nat) (hs : isS g tpl b n k) (x : Int32) (hx : vp_nar .char x = x) : CT g l tpl b n yX6_append cX6_append 2 (some .int) rm_X6_append [.ref (b + k), .int x] v (pI (if v k 2 < 0 then -3 else if v k 2 < 80 then v k 2 + 1 else -3) (if v k 2 < 0 then v else if v k 2 < 80 then u2 (u2 v (k + 1) (v k 2).toNatClampNeg x) k 2 (v k 2 + 1) else v)) := by
  refine CT.introI [some (.ref (b + k)), some (.int x)] (own := RX6) (by decide +kernel) rfl rfl rfl rfl ?_
  intro p e s m args below meth c Q C hE
  refine r_aload_n C dX6_append_0 rfl ?_
  refine gf_X6_23 C dX6_append_1 hs.1 hs.k0 ?_
  refine r_if_lt (tgt := 19) C dX6_append_4 rfl (fun c_4 => ?_) (fun c_4 => ?_)
  · skip
    refine r_bipush C dX6_append_19 bp_m3 ?_
    exact hE _ _ _ _ dX6_append_21 (by simp (disch := omega) [pI, c_4, u2_o, u2_r, upd_o, upd_r])
  · skip
    refine r_aload_n C dX6_append_7 rfl ?_
    refine gf_X6_23 C dX6_append_8 hs.1 hs.k0 ?_
    refine r_aload_n C dX6_append_11 rfl ?_
    refine gf_X6_9 C dX6_append_12 hs.1 hs.k0 ?_
    refine r_alen C dX6_append_15 hs.2.1 rfl (hs.k (by decide)) kn_80.symm ?_
    refine r_icmp_lt (tgt := 22) C dX6_append_16 rfl (fun c_16 => ?_) (fun c_16 => ?_)
    · skip
      obtain ⟨j, hj, ej⟩ := na_of kn_80 (by decide) c_4 c_16
      have nc : (v k 2).toNatClampNeg = j := by rw [ej]; exact nI_clamp (by omega)
      refine r_aload_n C dX6_append_22 rfl ?_
      refine gf_X6_9 C dX6_append_23 hs.1 hs.k0 ?_
      refine r_aload_n C dX6_append_26 rfl ?_
      refine gf_X6_23 C dX6_append_27 hs.1 hs.k0 ?_
      refine r_iload_n C dX6_append_30 rfl ?_
      refine r_cast C dX6_append_31 hs.2.1 (hs.k (by decide)) (j := j) ej hj rfl ?_
      rw [hx]
      refine r_aload_n C dX6_append_32 rfl ?_
      refine r_dup C dX6_append_33 rfl ?_
      refine gf_X6_23 C dX6_append_34 hs.1 hs.k0 ?_
      refine r_iconst C dX6_append_37 ic_1 ?_
      refine r_iadd C dX6_append_38 ?_
      refine pf_X6_23 C dX6_append_39 hs.1 hs.k0 ?_
      refine r_aload_n C dX6_append_42 rfl ?_
      refine gf_X6_23 C dX6_append_43 hs.1 hs.k0 ?_
      exact hE _ _ _ _ dX6_append_46 (by simp (disch := omega) [pI, c_4, c_16, nc, u2_o, u2_r, upd_o, upd_r])
    · skip
      refine r_bipush C dX6_append_19 bp_m3 ?_
      exact hE _ _ _ _ dX6_append_21 (by simp (disch := omega) [pI, c_4, c_16, u2_o, u2_r, upd_o, upd_r])
set_option maxRecDepth 100000 in
set_option maxHeartbeats 4000000 in
theorem c_X6_isDigit {g : mG} {l : Launch} {tpl : mT} {b n : Nat} {v : mV} (x : Int32) : CT g l tpl b n yX6_isDigit cX6_isDigit 1 (some .boolean) rm_X6_isDigit [.int x] v (pI (scDigit x) v) := by
  refine CT.introZ [some (.int x)] (own := RX6) (by decide +kernel) rfl rfl rfl rfl ?_
  intro p e s m args below meth c Q C hE
  refine r_iload_n C dX6_isDigit_0 rfl ?_
  refine r_bipush C dX6_isDigit_1 bp_48 ?_
  refine r_icmp_lt (tgt := 16) C dX6_isDigit_3 rfl (fun c_3 => ?_) (fun c_3 => ?_)
  · skip
    refine r_iconst C dX6_isDigit_16 ic_0 ?_
    exact hE _ _ _ _ (nar_b (Or.inl rfl)) dX6_isDigit_17 (by first | with_reducible exact ⟨rfl, rfl⟩ | (simp (disch := omega) [pI, pV, scDigit, c_3, u2_o, u2_r, upd_o, upd_r]))
  · skip
    refine r_iload_n C dX6_isDigit_6 rfl ?_
    refine r_bipush C dX6_isDigit_7 bp_57 ?_
    refine r_icmp_gt (tgt := 16) C dX6_isDigit_9 rfl (fun c_9 => ?_) (fun c_9 => ?_)
    · skip
      refine r_iconst C dX6_isDigit_16 ic_0 ?_
      exact hE _ _ _ _ (nar_b (Or.inl rfl)) dX6_isDigit_17 (by first | with_reducible exact ⟨rfl, rfl⟩ | (simp (disch := omega) [pI, pV, scDigit, c_3, c_9, u2_o, u2_r, upd_o, upd_r]))
    · skip
      refine r_iconst C dX6_isDigit_12 ic_1 ?_
      refine r_goto (tgt := 17) C dX6_isDigit_13 rfl ?_
      exact hE _ _ _ _ (nar_b (Or.inr rfl)) dX6_isDigit_17 (by first | with_reducible exact ⟨rfl, rfl⟩ | (simp (disch := omega) [pI, pV, scDigit, c_3, c_9, u2_o, u2_r, upd_o, upd_r]))
set_option maxRecDepth 100000 in
set_option maxHeartbeats 4000000 in
theorem c_X6_reasonOf {g : mG} {l : Launch} {tpl : mT} {b n : Nat} {v : mV} (x : Int32) : CT g l tpl b n yX6_reasonOf cX6_reasonOf 1 (some .int) rm_X6_reasonOf [.int x] v (pI (scReason x) v) := by
  refine CT.introI [some (.int x)] (own := RX6) (by decide +kernel) rfl rfl rfl rfl ?_
  intro p e s m args below meth c Q C hE
  refine r_iload_n C dX6_reasonOf_0 rfl ?_
  refine r_if_lt (tgt := 6) C dX6_reasonOf_1 rfl (fun c_1 => ?_) (fun c_1 => ?_)
  · skip
    refine r_iload_n C dX6_reasonOf_6 rfl ?_
    refine r_iconst C dX6_reasonOf_7 ic_m1 ?_
    refine r_icmp_ne (tgt := 15) C dX6_reasonOf_8 rfl (fun c_8 => ?_) (fun c_8 => ?_)
    · skip
      refine r_iconst C dX6_reasonOf_15 ic_3 ?_
      exact hE _ _ _ _ dX6_reasonOf_16 (by first | with_reducible exact ⟨rfl, rfl⟩ | (simp (disch := omega) [pI, pV, scReason, c_1, c_8, u2_o, u2_r, upd_o, upd_r]))
    · skip
      refine r_iconst C dX6_reasonOf_11 ic_2 ?_
      refine r_goto (tgt := 16) C dX6_reasonOf_12 rfl ?_
      exact hE _ _ _ _ dX6_reasonOf_16 (by first | with_reducible exact ⟨rfl, rfl⟩ | (simp (disch := omega) [pI, pV, scReason, c_1, c_8, u2_o, u2_r, upd_o, upd_r]))
  · skip
    refine r_iconst C dX6_reasonOf_4 ic_m1 ?_
    exact hE _ _ _ _ dX6_reasonOf_5 (by first | with_reducible exact ⟨rfl, rfl⟩ | (simp (disch := omega) [pI, pV, scReason, c_1, u2_o, u2_r, upd_o, upd_r]))
set_option maxRecDepth 100000 in
set_option maxHeartbeats 4000000 in
theorem c_X6_numbersAfter {g : mG} {l : Launch} {tpl : mT} {b n : Nat} {v : mV} (x : Int32) : CT g l tpl b n yX6_numbersAfter cX6_numbersAfter 1 (some .int) rm_X6_numbersAfter [.int x] v (pI (scMany x) v) := by
  refine CT.introI [some (.int x)] (own := RX6) (by decide +kernel) rfl rfl rfl rfl ?_
  intro p e s m args below meth c Q C hE
  refine r_iload_n C dX6_numbersAfter_0 rfl ?_
  by_cases s_97 : x = 97
  · skip
    refine r_lsw (y := 97) (off := 53) (tgt := 54) C dX6_numbersAfter_1 s_97 (by decide +kernel) rfl ?_
    refine r_iconst C dX6_numbersAfter_54 ic_2 ?_
    exact hE _ _ _ _ dX6_numbersAfter_55 (by simp [pI, scMany, s_97])
  by_cases s_107 : x = 107
  · skip
    refine r_lsw (y := 107) (off := 51) (tgt := 52) C dX6_numbersAfter_1 s_107 (by decide +kernel) rfl ?_
    refine r_iconst C dX6_numbersAfter_52 ic_1 ?_
    exact hE _ _ _ _ dX6_numbersAfter_53 (by simp [pI, scMany, s_97, s_107])
  by_cases s_111 : x = 111
  · skip
    refine r_lsw (y := 111) (off := 55) (tgt := 56) C dX6_numbersAfter_1 s_111 (by decide +kernel) rfl ?_
    refine r_iconst C dX6_numbersAfter_56 ic_3 ?_
    exact hE _ _ _ _ dX6_numbersAfter_57 (by simp [pI, scMany, s_97, s_107, s_111])
  by_cases s_114 : x = 114
  · skip
    refine r_lsw (y := 114) (off := 51) (tgt := 52) C dX6_numbersAfter_1 s_114 (by decide +kernel) rfl ?_
    refine r_iconst C dX6_numbersAfter_52 ic_1 ?_
    exact hE _ _ _ _ dX6_numbersAfter_53 (by simp [pI, scMany, s_97, s_107, s_111, s_114])
  by_cases s_116 : x = 116
  · skip
    refine r_lsw (y := 116) (off := 51) (tgt := 52) C dX6_numbersAfter_1 s_116 (by decide +kernel) rfl ?_
    refine r_iconst C dX6_numbersAfter_52 ic_1 ?_
    exact hE _ _ _ _ dX6_numbersAfter_53 (by simp [pI, scMany, s_97, s_107, s_111, s_114, s_116])
  refine r_lswd (tgt := 58) C dX6_numbersAfter_1 (by simp [Op.lookupswitch.offset, show ¬ Int32.toInt (x) = 97 from i32_ne (y := 97) s_97, show ¬ 97 = Int32.toInt (x) from fun z => i32_ne (y := 97) s_97 z.symm, show ¬ Int32.toInt (x) = 107 from i32_ne (y := 107) s_107, show ¬ 107 = Int32.toInt (x) from fun z => i32_ne (y := 107) s_107 z.symm, show ¬ Int32.toInt (x) = 111 from i32_ne (y := 111) s_111, show ¬ 111 = Int32.toInt (x) from fun z => i32_ne (y := 111) s_111 z.symm, show ¬ Int32.toInt (x) = 114 from i32_ne (y := 114) s_114, show ¬ 114 = Int32.toInt (x) from fun z => i32_ne (y := 114) s_114 z.symm, show ¬ Int32.toInt (x) = 116 from i32_ne (y := 116) s_116, show ¬ 116 = Int32.toInt (x) from fun z => i32_ne (y := 116) s_116 z.symm]) (by decide +kernel) rfl ?_
  refine r_iconst C dX6_numbersAfter_58 ic_0 ?_
  exact hE _ _ _ _ dX6_numbersAfter_59 (by simp [pI, scMany, s_97, s_107, s_111, s_114, s_116])
set_option maxRecDepth 100000 in
set_option maxHeartbeats 4000000 in
theorem c_X6_signAt {g : mG} {l : Launch} {tpl : mT} {b n : Nat} {v : mV} (k : Nat) (hs : isS g tpl b n k) (hC : chOK v k) (x : Int32) : CT g l tpl b n yX6_signAt cX6_signAt 2 (some .char) rm_X6_signAt [.ref (b + k), .int x] v (pI (scSign v k x) v) := by
  refine CT.introZ [some (.ref (b + k)), some (.int x)] (own := RX6) (by decide +kernel) rfl rfl rfl rfl ?_
  intro p e s m args below meth c Q C hE
  refine r_iload_n C dX6_signAt_0 rfl ?_
  refine r_if_lt (tgt := 30) C dX6_signAt_1 rfl (fun c_1 => ?_) (fun c_1 => ?_)
  · skip
    refine r_iconst C dX6_signAt_30 ic_0 ?_
    exact hE _ _ _ _ (by first | exact hC j hj | rfl) dX6_signAt_31 (by simp [pI, scSign, c_1])
  · skip
    refine r_iload_n C dX6_signAt_4 rfl ?_
    refine r_aload_n C dX6_signAt_5 rfl ?_
    refine gf_X6_23 C dX6_signAt_6 hs.1 hs.k0 ?_
    refine r_icmp_ge (tgt := 30) C dX6_signAt_9 rfl (fun c_9 => ?_) (fun c_9 => ?_)
    · skip
      refine r_iconst C dX6_signAt_30 ic_0 ?_
      exact hE _ _ _ _ (by first | exact hC j hj | rfl) dX6_signAt_31 (by simp [pI, scSign, c_1, c_9])
    · skip
      refine r_iload_n C dX6_signAt_12 rfl ?_
      refine r_aload_n C dX6_signAt_13 rfl ?_
      refine gf_X6_9 C dX6_signAt_14 hs.1 hs.k0 ?_
      refine r_alen C dX6_signAt_17 hs.2.1 rfl (hs.k (by decide)) kn_80.symm ?_
      refine r_icmp_ge (tgt := 30) C dX6_signAt_18 rfl (fun c_18 => ?_) (fun c_18 => ?_)
      · skip
        refine r_iconst C dX6_signAt_30 ic_0 ?_
        exact hE _ _ _ _ (by first | exact hC j hj | rfl) dX6_signAt_31 (by simp [pI, scSign, c_1, c_9, c_18])
      · skip
        refine r_aload_n C dX6_signAt_21 rfl ?_
        refine gf_X6_9 C dX6_signAt_22 hs.1 hs.k0 ?_
        refine r_iload_n C dX6_signAt_25 rfl ?_
        obtain ⟨j, hj, rfl⟩ := na_of kn_80 (by decide) c_1 c_18
        have nc : (nI j).toNatClampNeg = j := nI_clamp (by omega)
        refine r_cald C dX6_signAt_26 hs.2.1 (hs.k (by decide)) (j := j) rfl hj rfl ?_
        refine r_goto (tgt := 31) C dX6_signAt_27 rfl ?_
        exact hE _ _ _ _ (by first | exact hC j hj | rfl) dX6_signAt_31 (by simp [pI, scSign, c_1, c_9, c_18, nc])
