/-! ===== regions, rotas ===== -/
theorem u2_r {v : mV} {k j : Nat} {x : Int32} : u2 v k j x k = upd (v k) j x := by simp [u2]
theorem u2_o {v : mV} {k j : Nat} {x : Int32} {q : Nat} (h : q ≠ k) : u2 v k j x q = v q := by simp [u2, h]
theorem upd_r {f : Nat → Int32} {j : Nat} {x : Int32} : upd f j x j = x := by simp [upd]
theorem upd_o {f : Nat → Int32} {j : Nat} {x : Int32} {q : Nat} (h : q ≠ j) : upd f j x q = f q := by simp [upd, h]
theorem cpRow_r {v : mV} {k o : Nat} : cpRow v k o k = v o := by simp [cpRow]
theorem cpRow_o {v : mV} {k o q : Nat} (h : q ≠ k) : cpRow v k o q = v q := by simp [cpRow, h]
theorem iinc_1 (x : Int32) : x + Int32.ofInt 1 = x + 1 := by rw [ic_1]
theorem iinc_m1 (x : Int32) : x + Int32.ofInt (-1) = x - 1 := by rw [ic_m1]; rw [Int32.sub_eq_add_neg]
def rgMember (sz : Int32) (row : Nat → Int32) (x : Int32) : Int32 := if x < 0 then -1 else if x < sz then (if x < 5 then row x.toNatClampNeg else -1) else -1
def rgPlace (sz : Int32) (row : Nat → Int32) (who : Int32) : Nat → Nat → Int32
  | 0, _ => -1
  | r + 1, i => if nI i < sz then (if row i = who then nI i else rgPlace sz row who r (i + 1)) else -1
theorem rgPlace_or (sz : Int32) (row : Nat → Int32) (who : Int32) : ∀ (r i : Nat), i + r = 5 → rgPlace sz row who r i = -1 ∨ ∃ j, j < 5 ∧ rgPlace sz row who r i = nI j
  | 0, _, _ => Or.inl rfl
  | r + 1, i, h => by
    unfold rgPlace
    split
    · split
      · exact Or.inr ⟨i, by omega, rfl⟩
      · exact rgPlace_or sz row who r (i + 1) (by omega)
    · exact Or.inl rfl
theorem rgPlace_of {sz : Int32} {row : Nat → Int32} {who : Int32} (h : ¬ rgPlace sz row who 5 0 < 0) : ∃ j, j < 5 ∧ rgPlace sz row who 5 0 = nI j := by
  rcases rgPlace_or sz row who 5 0 rfl with q | q
  · exact absurd (by rw [q]; decide) h
  · exact q
def rgAdd (v : mV) (k : Nat) (x : Int32) : Int32 × mV := if rgPlace (v k 3) (v (k + 2)) x 5 0 = -1 then (if v k 3 < 0 then (-3, v) else if v k 3 < 5 then (v k 3 + 1, u2 (u2 v (k + 2) (v k 3).toNatClampNeg x) k 3 (v k 3 + 1)) else (-3, v)) else (-2, v)
def rgShift (k : Nat) (sz : Int32) : Nat → Nat → mV → mV
  | 0, _, v => v
  | r + 1, i, v => if nI i + 1 < sz then rgShift k sz r (i + 1) (u2 v (k + 2) i (v (k + 2) (i + 1))) else v
def rgRem (v : mV) (k : Nat) (x : Int32) : Int32 × mV :=
  if rgPlace (v k 3) (v (k + 2)) x 5 0 < 0 then (-2, v)
  else (v k 3 - 1, u2 (rgShift k (v k 3) (4 - (rgPlace (v k 3) (v (k + 2)) x 5 0).toNatClampNeg) (rgPlace (v k 3) (v (k + 2)) x 5 0).toNatClampNeg v) k 3 (v k 3 - 1))
/-- a new incident's row -/
def inNew (v : mV) (k : Nat) (x y z : Int32) : mV := fun q => if q = k then (fun j => if j = 0 then 1 else if j = 1 then x else if j = 2 then y else if j = 3 then 0 else if j = 4 then -1 else if j = 5 then -1 else if j = 6 then -1 else if j = 7 then 0 else if j = 8 then 1 else if j = 9 then z else if j = 10 then z else 0) else v q
def toNum (v : mV) (k : Nat) (x : Int32) : Int32 := if x = 6 then v k 0 else if x = 7 then v k 1 else if x = 8 then v k 2 else if x = 9 then v k 3 else if x = 10 then v k 4 else if x = 11 then v k 5 else if x = 12 then v k 6 else -1
set_option maxRecDepth 100000 in
set_option maxHeartbeats 4000000 in
theorem c_X4_memberAt {g : mG} {l : Launch} {tpl : mT} {b n : Nat} {v : mV} (k : Nat) (hr : isR g tpl b n k) (x : Int32) : CT g l tpl b n yX4_memberAt cX4_memberAt 2 (some .int) rm_X4_memberAt [.ref (b + k), .int x] v (pI (rgMember (v k 3) (v (k + 2)) x) v) := by
  refine CT.introI [some (.ref (b + k)), some (.int x)] (own := RX4) (by decide +kernel) rfl rfl rfl rfl ?_
  intro p e s m args below meth c Q C hE
  refine r_iload_n C dX4_memberAt_0 rfl ?_
  refine r_if_lt (tgt := 30) C dX4_memberAt_1 rfl (fun c_1 => ?_) (fun c_1 => ?_)
  · skip
    refine r_iconst C dX4_memberAt_30 ic_m1 ?_
    exact hE _ _ _ _ dX4_memberAt_31 (by first | with_reducible exact ⟨rfl, rfl⟩ | simp [pI, rgMember, c_1])
  · skip
    refine r_iload_n C dX4_memberAt_4 rfl ?_
    refine r_aload_n C dX4_memberAt_5 rfl ?_
    refine gf_X4_42 C dX4_memberAt_6 hr.1 hr.k ?_
    refine r_icmp_ge (tgt := 30) C dX4_memberAt_9 rfl (fun c_9 => ?_) (fun c_9 => ?_)
    · skip
      refine r_iconst C dX4_memberAt_30 ic_m1 ?_
      exact hE _ _ _ _ dX4_memberAt_31 (by first | with_reducible exact ⟨rfl, rfl⟩ | simp [pI, rgMember, c_1, c_9])
    · skip
      refine r_iload_n C dX4_memberAt_12 rfl ?_
      refine r_aload_n C dX4_memberAt_13 rfl ?_
      refine gf_X4_18 C dX4_memberAt_14 hr.1 hr.k ?_
      refine r_alen C dX4_memberAt_17 hr.2.2.1 rfl hr.2.2.2 kn_5.symm ?_
      refine r_icmp_ge (tgt := 30) C dX4_memberAt_18 rfl (fun c_18 => ?_) (fun c_18 => ?_)
      · skip
        refine r_iconst C dX4_memberAt_30 ic_m1 ?_
        exact hE _ _ _ _ dX4_memberAt_31 (by first | with_reducible exact ⟨rfl, rfl⟩ | simp [pI, rgMember, c_1, c_9, c_18])
      · skip
        refine r_aload_n C dX4_memberAt_21 rfl ?_
        refine gf_X4_18 C dX4_memberAt_22 hr.1 hr.k ?_
        refine r_iload_n C dX4_memberAt_25 rfl ?_
        obtain ⟨j, hj, rfl⟩ := na_of kn_5 (by decide) c_1 c_18
        have nc : (nI j).toNatClampNeg = j := nI_clamp (by omega)
        refine r_iald C dX4_memberAt_26 hr.2.2.1 hr.2.2.2 (j := j) rfl hj rfl ?_
        refine r_goto (tgt := 31) C dX4_memberAt_27 rfl ?_
        exact hE _ _ _ _ dX4_memberAt_31 (by first | with_reducible exact ⟨rfl, rfl⟩ | simp [pI, rgMember, c_1, c_9, c_18, nc])
set_option maxRecDepth 100000 in
set_option maxHeartbeats 4000000 in
theorem c_X4_placeOf {g : mG} {l : Launch} {tpl : mT} {b n : Nat} {v : mV} (k : Nat) (hr : isR g tpl b n k) (x : Int32) : CT g l tpl b n yX4_placeOf cX4_placeOf 3 (some .int) rm_X4_placeOf [.ref (b + k), .int x] v (pI (rgPlace (v k 3) (v (k + 2)) x 5 0) v) := by
  refine CT.introI [some (.ref (b + k)), some (.int x), none] (own := RX4) (by decide +kernel) rfl rfl rfl rfl ?_
  intro p e s m args below meth c Q C hE
  refine r_iconst C dX4_placeOf_0 ic_0 ?_
  refine r_istore_n C dX4_placeOf_1 rfl rfl ?_
  have loop_2 : ∀ (r : Nat) (i : Nat), (i + r = 5) → (rgPlace (v k 3) (v (k + 2)) x r i = rgPlace (v k 3) (v (k + 2)) x 5 0) → WM g p l e rm_X4_placeOf s m args below meth c Q tpl b n v 2 [some (.ref (b + k)), some (.int x), some (.int (nI i))] [] := by
    intro r
    induction r with
    | zero =>
      intro i hi hR
      refine r_iload_n C dX4_placeOf_2 rfl ?_
      refine r_aload_n C dX4_placeOf_3 rfl ?_
      refine gf_X4_42 C dX4_placeOf_4 hr.1 hr.k ?_
      refine r_icmp_ge (tgt := 37) C dX4_placeOf_7 rfl (fun c_7 => ?_) (fun c_7 => ?_)
      · skip
        refine r_iconst C dX4_placeOf_37 ic_m1 ?_
        exact hE _ _ _ _ dX4_placeOf_38 (by rw [← hR]; simp (disch := omega) [pI, pV, rgPlace, c_7])
      · skip
        refine r_iload_n C dX4_placeOf_10 rfl ?_
        refine r_aload_n C dX4_placeOf_11 rfl ?_
        refine gf_X4_18 C dX4_placeOf_12 hr.1 hr.k ?_
        refine r_alen C dX4_placeOf_15 hr.2.2.1 rfl hr.2.2.2 kn_5.symm ?_
        refine r_icmp_ge (tgt := 37) C dX4_placeOf_16 rfl (fun c_16 => ?_) (fun c_16 => ?_)
        · skip
          refine r_iconst C dX4_placeOf_37 ic_m1 ?_
          exact hE _ _ _ _ dX4_placeOf_38 (by rw [← hR]; simp (disch := omega) [pI, pV, rgPlace, c_7, c_16])
        · exact absurd c_16 (nI_nlt (a := i) (b := 5) (by omega) (by omega))
    | succ r ih_2 =>
      intro i hi hR
      refine r_iload_n C dX4_placeOf_2 rfl ?_
      refine r_aload_n C dX4_placeOf_3 rfl ?_
      refine gf_X4_42 C dX4_placeOf_4 hr.1 hr.k ?_
      refine r_icmp_ge (tgt := 37) C dX4_placeOf_7 rfl (fun c_7 => ?_) (fun c_7 => ?_)
      · skip
        refine r_iconst C dX4_placeOf_37 ic_m1 ?_
        exact hE _ _ _ _ dX4_placeOf_38 (by rw [← hR]; simp (disch := omega) [pI, pV, rgPlace, c_7])
      · skip
        refine r_iload_n C dX4_placeOf_10 rfl ?_
        refine r_aload_n C dX4_placeOf_11 rfl ?_
        refine gf_X4_18 C dX4_placeOf_12 hr.1 hr.k ?_
        refine r_alen C dX4_placeOf_15 hr.2.2.1 rfl hr.2.2.2 kn_5.symm ?_
        refine r_icmp_ge (tgt := 37) C dX4_placeOf_16 rfl (fun c_16 => ?_) (fun c_16 => ?_)
        · exact absurd (nI_lt (a := i) (b := 5) (by omega) (by omega)) c_16
        · skip
          refine r_aload_n C dX4_placeOf_19 rfl ?_
          refine gf_X4_18 C dX4_placeOf_20 hr.1 hr.k ?_
          refine r_iload_n C dX4_placeOf_23 rfl ?_
          refine r_iald C dX4_placeOf_24 hr.2.2.1 hr.2.2.2 (j := i) rfl (by omega) rfl ?_
          refine r_iload_n C dX4_placeOf_25 rfl ?_
          refine r_icmp_ne (tgt := 31) C dX4_placeOf_26 rfl (fun c_26 => ?_) (fun c_26 => ?_)
          · skip
            refine r_iinc C dX4_placeOf_31 rfl (nI_inc _) rfl ?_
            refine r_goto (tgt := 2) C dX4_placeOf_34 rfl ?_
            exact ih_2 (i + 1) (by omega) (by rw [← hR]; simp [rgPlace, c_7, c_16, c_26])
          · skip
            refine r_iload_n C dX4_placeOf_29 rfl ?_
            exact hE _ _ _ _ dX4_placeOf_30 (by rw [← hR]; simp (disch := omega) [pI, pV, rgPlace, c_7, c_16, c_26])
  exact loop_2 5 0 rfl rfl
set_option maxRecDepth 100000 in
set_option maxHeartbeats 4000000 in
theorem c_X4_add {g : mG} {l : Launch} {tpl : mT} {b n : Nat} {v : mV} (k : Nat) (hr : isR g tpl b n k) (x : Int32) : CT g l tpl b n yX4_add cX4_add 2 (some .int) rm_X4_add [.ref (b + k), .int x] v (pI (rgAdd v k x).1 (rgAdd v k x).2) := by
  refine CT.introI [some (.ref (b + k)), some (.int x)] (own := RX4) (by decide +kernel) rfl rfl rfl rfl ?_
  intro p e s m args below meth c Q C hE
  refine r_aload_n C dX4_add_0 rfl ?_
  refine r_iload_n C dX4_add_1 rfl ?_
  refine cvI_X4_49 C dX4_add_2 (c_X4_placeOf _ hr _) hr.1 hr.k ⟨rfl, rfl⟩ rfl rfl rfl ?_
  refine r_iconst C dX4_add_5 ic_m1 ?_
  refine r_icmp_eq (tgt := 12) C dX4_add_6 rfl (fun c_6 => ?_) (fun c_6 => ?_)
  · skip
    refine r_aload_n C dX4_add_12 rfl ?_
    refine gf_X4_42 C dX4_add_13 hr.1 hr.k ?_
    refine r_if_lt (tgt := 31) C dX4_add_16 rfl (fun c_16 => ?_) (fun c_16 => ?_)
    · skip
      refine r_bipush C dX4_add_31 bp_m3 ?_
      exact hE _ _ _ _ dX4_add_33 (by first | with_reducible exact ⟨rfl, rfl⟩ | (simp (disch := omega) [pI, pV, rgAdd, c_6, c_16, u2_o, u2_r, upd_o, upd_r]))
    · skip
      refine r_aload_n C dX4_add_19 rfl ?_
      refine gf_X4_42 C dX4_add_20 hr.1 hr.k ?_
      refine r_aload_n C dX4_add_23 rfl ?_
      refine gf_X4_18 C dX4_add_24 hr.1 hr.k ?_
      refine r_alen C dX4_add_27 hr.2.2.1 rfl hr.2.2.2 kn_5.symm ?_
      refine r_icmp_lt (tgt := 34) C dX4_add_28 rfl (fun c_28 => ?_) (fun c_28 => ?_)
      · skip
        obtain ⟨j, hj, ej⟩ := na_of kn_5 (by decide) c_16 c_28
        have nc : (v k 3).toNatClampNeg = j := by rw [ej]; exact nI_clamp (by omega)
        refine r_aload_n C dX4_add_34 rfl ?_
        refine gf_X4_18 C dX4_add_35 hr.1 hr.k ?_
        refine r_aload_n C dX4_add_38 rfl ?_
        refine gf_X4_42 C dX4_add_39 hr.1 hr.k ?_
        refine r_iload_n C dX4_add_42 rfl ?_
        refine r_iast C dX4_add_43 hr.2.2.1 hr.2.2.2 (j := j) ej hj rfl ?_
        refine r_aload_n C dX4_add_44 rfl ?_
        refine r_dup C dX4_add_45 rfl ?_
        refine gf_X4_42 C dX4_add_46 hr.1 hr.k ?_
        refine r_iconst C dX4_add_49 ic_1 ?_
        refine r_iadd C dX4_add_50 ?_
        refine pf_X4_42 C dX4_add_51 hr.1 hr.k ?_
        refine r_aload_n C dX4_add_54 rfl ?_
        refine gf_X4_42 C dX4_add_55 hr.1 hr.k ?_
        exact hE _ _ _ _ dX4_add_58 (by first | with_reducible exact ⟨rfl, rfl⟩ | (simp (disch := omega) [pI, pV, rgAdd, c_6, c_16, c_28, nc, u2_o, u2_r, upd_o, upd_r]))
      · skip
        refine r_bipush C dX4_add_31 bp_m3 ?_
        exact hE _ _ _ _ dX4_add_33 (by first | with_reducible exact ⟨rfl, rfl⟩ | (simp (disch := omega) [pI, pV, rgAdd, c_6, c_16, c_28, u2_o, u2_r, upd_o, upd_r]))
  · skip
    refine r_bipush C dX4_add_9 bp_m2 ?_
    exact hE _ _ _ _ dX4_add_11 (by first | with_reducible exact ⟨rfl, rfl⟩ | (simp (disch := omega) [pI, pV, rgAdd, c_6, u2_o, u2_r, upd_o, upd_r]))
set_option maxRecDepth 100000 in
set_option maxHeartbeats 4000000 in
theorem c_X4_remove {g : mG} {l : Launch} {tpl : mT} {b n : Nat} {v : mV} (k : Nat) (hr : isR g tpl b n k) (x : Int32) : CT g l tpl b n yX4_remove cX4_remove 4 (some .int) rm_X4_remove [.ref (b + k), .int x] v (pI (rgRem v k x).1 (rgRem v k x).2) := by
  refine CT.introI [some (.ref (b + k)), some (.int x), none, none] (own := RX4) (by decide +kernel) rfl rfl rfl rfl ?_
  intro p e s m args below meth c Q C hE
  refine r_aload_n C dX4_remove_0 rfl ?_
  refine r_iload_n C dX4_remove_1 rfl ?_
  refine cvI_X4_49 C dX4_remove_2 (c_X4_placeOf _ hr _) hr.1 hr.k ⟨rfl, rfl⟩ rfl rfl rfl ?_
  refine r_istore_n C dX4_remove_5 rfl rfl ?_
  refine r_iload_n C dX4_remove_6 rfl ?_
  refine r_if_ge (tgt := 13) C dX4_remove_7 rfl (fun c_7 => ?_) (fun c_7 => ?_)
  · skip
    obtain ⟨j, hj, ej⟩ := rgPlace_of c_7
    have nc : (rgPlace (v k 3) (v (k + 2)) x 5 0).toNatClampNeg = j := by rw [ej]; exact nI_clamp (by omega)
    rw [ej]
    refine r_iload_n C dX4_remove_13 rfl ?_
    refine r_istore_n C dX4_remove_14 rfl rfl ?_
    have loop_15 : ∀ (r : Nat) (i : Nat) (w : mV), (i + r = 4) → (rgShift k (v k 3) r i w = rgShift k (v k 3) (4 - j) j v) → (∀ q, q ≠ k + 2 → w q = v q) → WM g p l e rm_X4_remove s m args below meth c Q tpl b n w 15 [some (.ref (b + k)), some (.int x), some (.int (nI j)), some (.int (nI i))] [] := by
      intro r
      induction r with
      | zero =>
        intro i w hi hR hw
        have hk3 : w k 3 = v k 3 := by rw [hw k (by omega)]
        refine r_iload_n C dX4_remove_15 rfl ?_
        refine r_iconst C dX4_remove_16 ic_1 ?_
        refine r_iadd C dX4_remove_17 ?_
        refine r_aload_n C dX4_remove_18 rfl ?_
        refine gf_X4_42 C dX4_remove_19 hr.1 hr.k ?_
        refine r_icmp_ge (tgt := 56) C dX4_remove_22 rfl (fun c_22 => ?_) (fun c_22 => ?_)
        · skip
          have hw2 : w = rgShift k (v k 3) (4 - j) j v := by first | (rw [← hR, rgShift]; done) | (rw [← hR, rgShift, if_neg (by rw [← hk3]; exact c_22)]; done)
          refine r_aload_n C dX4_remove_56 rfl ?_
          refine r_dup C dX4_remove_57 rfl ?_
          refine gf_X4_42 C dX4_remove_58 hr.1 hr.k ?_
          refine r_iconst C dX4_remove_61 ic_1 ?_
          refine r_isub C dX4_remove_62 ?_
          refine pf_X4_42 C dX4_remove_63 hr.1 hr.k ?_
          refine r_aload_n C dX4_remove_66 rfl ?_
          refine gf_X4_42 C dX4_remove_67 hr.1 hr.k ?_
          exact hE _ _ _ _ dX4_remove_70 (And.intro (by simp [u2_r, upd_r, hk3, rgRem, c_7]) (by simp only [rgRem, if_neg c_7, nc, ← hw2, hk3]))
        · skip
          refine r_iload_n C dX4_remove_25 rfl ?_
          refine r_iconst C dX4_remove_26 ic_1 ?_
          refine r_iadd C dX4_remove_27 ?_
          refine r_aload_n C dX4_remove_28 rfl ?_
          refine gf_X4_18 C dX4_remove_29 hr.1 hr.k ?_
          refine r_alen C dX4_remove_32 hr.2.2.1 rfl hr.2.2.2 kn_5.symm ?_
          refine r_icmp_ge (tgt := 56) C dX4_remove_33 rfl (fun c_33 => ?_) (fun c_33 => ?_)
          · skip
            have hw2 : w = rgShift k (v k 3) (4 - j) j v := by first | (rw [← hR, rgShift]; done) | (rw [← hR, rgShift, if_neg (by rw [← hk3]; exact c_22)]; done)
            refine r_aload_n C dX4_remove_56 rfl ?_
            refine r_dup C dX4_remove_57 rfl ?_
            refine gf_X4_42 C dX4_remove_58 hr.1 hr.k ?_
            refine r_iconst C dX4_remove_61 ic_1 ?_
            refine r_isub C dX4_remove_62 ?_
            refine pf_X4_42 C dX4_remove_63 hr.1 hr.k ?_
            refine r_aload_n C dX4_remove_66 rfl ?_
            refine gf_X4_42 C dX4_remove_67 hr.1 hr.k ?_
            exact hE _ _ _ _ dX4_remove_70 (And.intro (by simp [u2_r, upd_r, hk3, rgRem, c_7]) (by simp only [rgRem, if_neg c_7, nc, ← hw2, hk3]))
          · exact absurd c_33 (by rw [nI_1]; exact nI_nlt (a := i + 1) (b := 5) (by omega) (by omega))
      | succ r ih_15 =>
        intro i w hi hR hw
        have hk3 : w k 3 = v k 3 := by rw [hw k (by omega)]
        refine r_iload_n C dX4_remove_15 rfl ?_
        refine r_iconst C dX4_remove_16 ic_1 ?_
        refine r_iadd C dX4_remove_17 ?_
        refine r_aload_n C dX4_remove_18 rfl ?_
        refine gf_X4_42 C dX4_remove_19 hr.1 hr.k ?_
        refine r_icmp_ge (tgt := 56) C dX4_remove_22 rfl (fun c_22 => ?_) (fun c_22 => ?_)
        · skip
          have hw2 : w = rgShift k (v k 3) (4 - j) j v := by first | (rw [← hR, rgShift]; done) | (rw [← hR, rgShift, if_neg (by rw [← hk3]; exact c_22)]; done)
          refine r_aload_n C dX4_remove_56 rfl ?_
          refine r_dup C dX4_remove_57 rfl ?_
          refine gf_X4_42 C dX4_remove_58 hr.1 hr.k ?_
          refine r_iconst C dX4_remove_61 ic_1 ?_
          refine r_isub C dX4_remove_62 ?_
          refine pf_X4_42 C dX4_remove_63 hr.1 hr.k ?_
          refine r_aload_n C dX4_remove_66 rfl ?_
          refine gf_X4_42 C dX4_remove_67 hr.1 hr.k ?_
          exact hE _ _ _ _ dX4_remove_70 (And.intro (by simp [u2_r, upd_r, hk3, rgRem, c_7]) (by simp only [rgRem, if_neg c_7, nc, ← hw2, hk3]))
        · skip
          refine r_iload_n C dX4_remove_25 rfl ?_
          refine r_iconst C dX4_remove_26 ic_1 ?_
          refine r_iadd C dX4_remove_27 ?_
          refine r_aload_n C dX4_remove_28 rfl ?_
          refine gf_X4_18 C dX4_remove_29 hr.1 hr.k ?_
          refine r_alen C dX4_remove_32 hr.2.2.1 rfl hr.2.2.2 kn_5.symm ?_
          refine r_icmp_ge (tgt := 56) C dX4_remove_33 rfl (fun c_33 => ?_) (fun c_33 => ?_)
          · exact absurd (by rw [nI_1]; exact nI_lt (a := i + 1) (b := 5) (by omega) (by omega)) c_33
          · skip
            refine r_aload_n C dX4_remove_36 rfl ?_
            refine gf_X4_18 C dX4_remove_37 hr.1 hr.k ?_
            refine r_iload_n C dX4_remove_40 rfl ?_
            refine r_aload_n C dX4_remove_41 rfl ?_
            refine gf_X4_18 C dX4_remove_42 hr.1 hr.k ?_
            refine r_iload_n C dX4_remove_45 rfl ?_
            refine r_iconst C dX4_remove_46 ic_1 ?_
            refine r_iadd C dX4_remove_47 ?_
            refine r_iald C dX4_remove_48 hr.2.2.1 hr.2.2.2 (j := (i + 1)) (na_add rfl kn_1) (by omega) rfl ?_
            refine r_iast C dX4_remove_49 hr.2.2.1 hr.2.2.2 (j := i) rfl (by omega) rfl ?_
            refine r_iinc C dX4_remove_50 rfl (nI_inc _) rfl ?_
            refine r_goto (tgt := 15) C dX4_remove_53 rfl ?_
            exact ih_15 (i + 1) _ (by omega) (by rw [← hR]; simp only [rgShift]; rw [if_pos (by rw [← hk3]; exact c_22)]) (fun q hq => by rw [u2_o hq, hw q hq])
    exact loop_15 (4 - j) j v (by omega) rfl (fun _ _ => rfl)
  · skip
    refine r_bipush C dX4_remove_10 bp_m2 ?_
    exact hE _ _ _ _ dX4_remove_12 (by simp [pI, rgRem, c_7])
set_option maxRecDepth 100000 in
set_option maxHeartbeats 4000000 in
theorem c_X8_copyFrom {g : mG} {l : Launch} {tpl : mT} {b n : Nat} {v : mV} (k o : Nat) (ht : tpl k = tStand) (hk : k < n) (ho : tpl o = tStand) (hk2 : o < n) : CT g l tpl b n yX8_copyFrom cX8_copyFrom 2 none rm_X8_copyFrom [.ref (b + k), .ref (b + o)] v (pV (cpRow v k o)) := by
  refine CT.introV [some (.ref (b + k)), some (.ref (b + o))] (own := RX8) (by decide +kernel) rfl rfl rfl rfl ?_
  intro p e s m args below meth c Q C hE
  refine r_aload_n C dX8_copyFrom_0 rfl ?_
  refine r_aload_n C dX8_copyFrom_1 rfl ?_
  refine gf_X8_7 C dX8_copyFrom_2 ho hk2 ?_
  refine pf_X8_7 C dX8_copyFrom_5 ht hk ?_
  refine r_aload_n C dX8_copyFrom_8 rfl ?_
  refine r_aload_n C dX8_copyFrom_9 rfl ?_
  refine gf_X8_13 C dX8_copyFrom_10 ho hk2 ?_
  refine pf_X8_13 C dX8_copyFrom_13 ht hk ?_
  refine r_aload_n C dX8_copyFrom_16 rfl ?_
  refine r_aload_n C dX8_copyFrom_17 rfl ?_
  refine gf_X8_16 C dX8_copyFrom_18 ho hk2 ?_
  refine pf_X8_16 C dX8_copyFrom_21 ht hk ?_
  refine WM_conv (v1 := cpRow v k o) (fun q hq => ?_) ?_
  · by_cases hqk : q = k
    · subst hqk
      rw [ht]
      by_cases hko : o = q
      · subst hko
        simp only [cpRow, if_true, u2_r]
        all_goals rfl
      · simp only [cpRow, if_true, u2_r, u2_o hko]
        all_goals rfl
    · simp [cpRow, hqk, u2_o hqk]
  exact hE _ _ _ dX8_copyFrom_24 (by first | with_reducible exact ⟨rfl, rfl⟩ | simp [pV])
set_option maxRecDepth 100000 in
set_option maxHeartbeats 4000000 in
theorem c_X9_copyFrom {g : mG} {l : Launch} {tpl : mT} {b n : Nat} {v : mV} (k o : Nat) (ht : tpl k = tTotals) (hk : k < n) (ho : tpl o = tTotals) (hk2 : o < n) (hko : o ≠ k) : CT g l tpl b n yX9_copyFrom cX9_copyFrom 2 none rm_X9_copyFrom [.ref (b + k), .ref (b + o)] v (pV (cpRow v k o)) := by
  refine CT.introV [some (.ref (b + k)), some (.ref (b + o))] (own := RX9) (by decide +kernel) rfl rfl rfl rfl ?_
  intro p e s m args below meth c Q C hE
  refine r_aload_n C dX9_copyFrom_0 rfl ?_
  refine r_aload_n C dX9_copyFrom_1 rfl ?_
  refine gf_X9_9 C dX9_copyFrom_2 ho hk2 ?_
  refine pf_X9_9 C dX9_copyFrom_5 ht hk ?_
  refine r_aload_n C dX9_copyFrom_8 rfl ?_
  refine r_aload_n C dX9_copyFrom_9 rfl ?_
  refine gf_X9_15 C dX9_copyFrom_10 ho hk2 ?_
  refine pf_X9_15 C dX9_copyFrom_13 ht hk ?_
  refine r_aload_n C dX9_copyFrom_16 rfl ?_
  refine r_aload_n C dX9_copyFrom_17 rfl ?_
  refine gf_X9_18 C dX9_copyFrom_18 ho hk2 ?_
  refine pf_X9_18 C dX9_copyFrom_21 ht hk ?_
  refine r_aload_n C dX9_copyFrom_24 rfl ?_
  refine r_aload_n C dX9_copyFrom_25 rfl ?_
  refine gf_X9_21 C dX9_copyFrom_26 ho hk2 ?_
  refine pf_X9_21 C dX9_copyFrom_29 ht hk ?_
  refine r_aload_n C dX9_copyFrom_32 rfl ?_
  refine r_aload_n C dX9_copyFrom_33 rfl ?_
  refine gf_X9_24 C dX9_copyFrom_34 ho hk2 ?_
  refine pf_X9_24 C dX9_copyFrom_37 ht hk ?_
  refine r_aload_n C dX9_copyFrom_40 rfl ?_
  refine r_aload_n C dX9_copyFrom_41 rfl ?_
  refine gf_X9_27 C dX9_copyFrom_42 ho hk2 ?_
  refine pf_X9_27 C dX9_copyFrom_45 ht hk ?_
  refine r_aload_n C dX9_copyFrom_48 rfl ?_
  refine r_aload_n C dX9_copyFrom_49 rfl ?_
  refine gf_X9_30 C dX9_copyFrom_50 ho hk2 ?_
  refine pf_X9_30 C dX9_copyFrom_53 ht hk ?_
  refine r_aload_n C dX9_copyFrom_56 rfl ?_
  refine r_aload_n C dX9_copyFrom_57 rfl ?_
  refine gf_X9_33 C dX9_copyFrom_58 ho hk2 ?_
  refine pf_X9_33 C dX9_copyFrom_61 ht hk ?_
  refine r_aload_n C dX9_copyFrom_64 rfl ?_
  refine r_aload_n C dX9_copyFrom_65 rfl ?_
  refine gf_X9_36 C dX9_copyFrom_66 ho hk2 ?_
  refine pf_X9_36 C dX9_copyFrom_69 ht hk ?_
  refine r_aload_n C dX9_copyFrom_72 rfl ?_
  refine r_aload_n C dX9_copyFrom_73 rfl ?_
  refine gf_X9_39 C dX9_copyFrom_74 ho hk2 ?_
  refine pf_X9_39 C dX9_copyFrom_77 ht hk ?_
  refine WM_conv (v1 := cpRow v k o) (fun q hq => ?_) ?_
  · by_cases hqk : q = k
    · subst hqk
      rw [ht]
      simp only [cpRow, if_true, u2_r, u2_o hko]
      all_goals rfl
    · simp [cpRow, hqk, u2_o hqk]
  exact hE _ _ _ dX9_copyFrom_80 (by first | with_reducible exact ⟨rfl, rfl⟩ | simp [pV])
set_option maxRecDepth 100000 in
set_option maxHeartbeats 4000000 in
theorem c_X2_copyFrom {g : mG} {l : Launch} {tpl : mT} {b n : Nat} {v : mV} (k o : Nat) (ht : tpl k = tIncident) (hk : k < n) (ho : tpl o = tIncident) (hk2 : o < n) (hko : o ≠ k) (hb0 : v o 0 = 0 ∨ v o 0 = 1) (hb7 : v o 7 = 0 ∨ v o 7 = 1) : CT g l tpl b n yX2_copyFrom cX2_copyFrom 2 none rm_X2_copyFrom [.ref (b + k), .ref (b + o)] v (pV (cpRow v k o)) := by
  refine CT.introV [some (.ref (b + k)), some (.ref (b + o))] (own := RX2) (by decide +kernel) rfl rfl rfl rfl ?_
  intro p e s m args below meth c Q C hE
  refine r_aload_n C dX2_copyFrom_0 rfl ?_
  refine r_aload_n C dX2_copyFrom_1 rfl ?_
  refine gf_X2_9 C dX2_copyFrom_2 ho hk2 ?_
  refine pf_X2_9 C hb0 dX2_copyFrom_5 ht hk ?_
  refine r_aload_n C dX2_copyFrom_8 rfl ?_
  refine r_aload_n C dX2_copyFrom_9 rfl ?_
  refine gf_X2_15 C dX2_copyFrom_10 ho hk2 ?_
  refine pf_X2_15 C dX2_copyFrom_13 ht hk ?_
  refine r_aload_n C dX2_copyFrom_16 rfl ?_
  refine r_aload_n C dX2_copyFrom_17 rfl ?_
  refine gf_X2_19 C dX2_copyFrom_18 ho hk2 ?_
  refine pf_X2_19 C dX2_copyFrom_21 ht hk ?_
  refine r_aload_n C dX2_copyFrom_24 rfl ?_
  refine r_aload_n C dX2_copyFrom_25 rfl ?_
  refine gf_X2_22 C dX2_copyFrom_26 ho hk2 ?_
  refine pf_X2_22 C dX2_copyFrom_29 ht hk ?_
  refine r_aload_n C dX2_copyFrom_32 rfl ?_
  refine r_aload_n C dX2_copyFrom_33 rfl ?_
  refine gf_X2_25 C dX2_copyFrom_34 ho hk2 ?_
  refine pf_X2_25 C dX2_copyFrom_37 ht hk ?_
  refine r_aload_n C dX2_copyFrom_40 rfl ?_
  refine r_aload_n C dX2_copyFrom_41 rfl ?_
  refine gf_X2_28 C dX2_copyFrom_42 ho hk2 ?_
  refine pf_X2_28 C dX2_copyFrom_45 ht hk ?_
  refine r_aload_n C dX2_copyFrom_48 rfl ?_
  refine r_aload_n C dX2_copyFrom_49 rfl ?_
  refine gf_X2_31 C dX2_copyFrom_50 ho hk2 ?_
  refine pf_X2_31 C dX2_copyFrom_53 ht hk ?_
  refine r_aload_n C dX2_copyFrom_56 rfl ?_
  refine r_aload_n C dX2_copyFrom_57 rfl ?_
  refine gf_X2_34 C dX2_copyFrom_58 ho hk2 ?_
  refine pf_X2_34 C (by simp (disch := omega) only [u2_o hko]; exact hb7) dX2_copyFrom_61 ht hk ?_
  refine r_aload_n C dX2_copyFrom_64 rfl ?_
  refine r_aload_n C dX2_copyFrom_65 rfl ?_
  refine gf_X2_37 C dX2_copyFrom_66 ho hk2 ?_
  refine pf_X2_37 C dX2_copyFrom_69 ht hk ?_
  refine r_aload_n C dX2_copyFrom_72 rfl ?_
  refine r_aload_n C dX2_copyFrom_73 rfl ?_
  refine gf_X2_40 C dX2_copyFrom_74 ho hk2 ?_
  refine pf_X2_40 C dX2_copyFrom_77 ht hk ?_
  refine r_aload_n C dX2_copyFrom_80 rfl ?_
  refine r_aload_n C dX2_copyFrom_81 rfl ?_
  refine gf_X2_43 C dX2_copyFrom_82 ho hk2 ?_
  refine pf_X2_43 C dX2_copyFrom_85 ht hk ?_
  refine r_aload_n C dX2_copyFrom_88 rfl ?_
  refine r_aload_n C dX2_copyFrom_89 rfl ?_
  refine gf_X2_46 C dX2_copyFrom_90 ho hk2 ?_
  refine pf_X2_46 C dX2_copyFrom_93 ht hk ?_
  refine r_aload_n C dX2_copyFrom_96 rfl ?_
  refine r_aload_n C dX2_copyFrom_97 rfl ?_
  refine gf_X2_49 C dX2_copyFrom_98 ho hk2 ?_
  refine pf_X2_49 C dX2_copyFrom_101 ht hk ?_
  refine r_aload_n C dX2_copyFrom_104 rfl ?_
  refine r_aload_n C dX2_copyFrom_105 rfl ?_
  refine gf_X2_52 C dX2_copyFrom_106 ho hk2 ?_
  refine pf_X2_52 C dX2_copyFrom_109 ht hk ?_
  refine WM_conv (v1 := cpRow v k o) (fun q hq => ?_) ?_
  · by_cases hqk : q = k
    · subst hqk
      rw [ht]
      simp only [cpRow, if_true, u2_r, u2_o hko]
      all_goals rfl
    · simp [cpRow, hqk, u2_o hqk]
  exact hE _ _ _ dX2_copyFrom_112 (by first | with_reducible exact ⟨rfl, rfl⟩ | simp [pV])
set_option maxRecDepth 100000 in
set_option maxHeartbeats 4000000 in
theorem c_X3_copyFrom {g : mG} {l : Launch} {tpl : mT} {b n : Nat} {v : mV} (k o : Nat) (hp : isP tpl b n k) (ho : isP tpl b n o) (hd : k + 2 ≤ o ∨ o + 2 ≤ k) : CT g l tpl b n yX3_copyFrom cX3_copyFrom 2 none rm_X3_copyFrom [.ref (b + k), .ref (b + o)] v (pV (cpRow (cpRow v k o) (k + 1) (o + 1))) := by
  refine CT.introV [some (.ref (b + k)), some (.ref (b + o))] (own := RX3) (by decide +kernel) rfl rfl rfl rfl ?_
  intro p e s m args below meth c Q C hE
  refine r_aload_n C dX3_copyFrom_0 rfl ?_
  refine gf_X3_10 C dX3_copyFrom_1 hp.1 hp.k ?_
  refine r_aload_n C dX3_copyFrom_4 rfl ?_
  refine gf_X3_10 C dX3_copyFrom_5 ho.1 ho.k ?_
  refine gf_X3_16 C dX3_copyFrom_8 ho.2.1 ho.2.2 ?_
  refine r_aload_n C dX3_copyFrom_11 rfl ?_
  refine gf_X3_10 C dX3_copyFrom_12 ho.1 ho.k ?_
  refine gf_X3_20 C dX3_copyFrom_15 ho.2.1 ho.2.2 ?_
  refine cvV_X3_23 C dX3_copyFrom_18 (c_X7_put _ hp.2.1 hp.2.2 _ _) hp.2.1 hp.2.2 ⟨rfl, rfl⟩ rfl rfl rfl ?_
  refine r_aload_n C dX3_copyFrom_21 rfl ?_
  refine r_aload_n C dX3_copyFrom_22 rfl ?_
  refine gf_X3_27 C dX3_copyFrom_23 ho.1 ho.k ?_
  refine pf_X3_27 C dX3_copyFrom_26 hp.1 hp.k ?_
  refine r_aload_n C dX3_copyFrom_29 rfl ?_
  refine r_aload_n C dX3_copyFrom_30 rfl ?_
  refine gf_X3_30 C dX3_copyFrom_31 ho.1 ho.k ?_
  refine pf_X3_30 C dX3_copyFrom_34 hp.1 hp.k ?_
  refine r_aload_n C dX3_copyFrom_37 rfl ?_
  refine r_aload_n C dX3_copyFrom_38 rfl ?_
  refine gf_X3_33 C dX3_copyFrom_39 ho.1 ho.k ?_
  refine pf_X3_33 C dX3_copyFrom_42 hp.1 hp.k ?_
  refine WM_conv (v1 := cpRow (cpRow v k o) (k + 1) (o + 1)) (fun q hq => ?_) ?_
  · by_cases h0 : q = k
    · subst h0
      rw [hp.1]
      simp (disch := omega) only [cpRow_r, cpRow_o, u2_r, u2_o]
      all_goals rfl
    · skip
      by_cases h1 : q = k + 1
      · subst h1
        rw [hp.2.1]
        simp (disch := omega) only [cpRow_r, cpRow_o, u2_r, u2_o]
        all_goals rfl
      · skip
        simp (disch := omega) only [cpRow_o, u2_o]
  exact hE _ _ _ dX3_copyFrom_45 (by first | with_reducible exact ⟨rfl, rfl⟩ | simp [pV])
set_option maxRecDepth 100000 in
set_option maxHeartbeats 4000000 in
theorem c_X4_copyFrom {g : mG} {l : Launch} {tpl : mT} {b n : Nat} {v : mV} (k o : Nat) (hr : isR g tpl b n k) (ho : isR g tpl b n o) (hd : k + 3 ≤ o ∨ o + 3 ≤ k) : CT g l tpl b n yX4_copyFrom cX4_copyFrom 2 none rm_X4_copyFrom [.ref (b + k), .ref (b + o)] v (pV (cpRow (cpRow (cpRow v k o) (k + 1) (o + 1)) (k + 2) (o + 2))) := by
  refine CT.introV [some (.ref (b + k)), some (.ref (b + o))] (own := RX4) (by decide +kernel) rfl rfl rfl rfl ?_
  intro p e s m args below meth c Q C hE
  refine r_aload_n C dX4_copyFrom_0 rfl ?_
  refine gf_X4_12 C dX4_copyFrom_1 hr.1 hr.k ?_
  refine r_aload_n C dX4_copyFrom_4 rfl ?_
  refine gf_X4_12 C dX4_copyFrom_5 ho.1 ho.k ?_
  refine gf_X4_22 C dX4_copyFrom_8 ho.2.1 ho.k1 ?_
  refine r_aload_n C dX4_copyFrom_11 rfl ?_
  refine gf_X4_12 C dX4_copyFrom_12 ho.1 ho.k ?_
  refine gf_X4_26 C dX4_copyFrom_15 ho.2.1 ho.k1 ?_
  refine cvV_X4_29 C dX4_copyFrom_18 (c_X7_put _ hr.2.1 hr.k1 _ _) hr.2.1 hr.k1 ⟨rfl, rfl⟩ rfl rfl rfl ?_
  refine r_aload_n C dX4_copyFrom_21 rfl ?_
  refine gf_X4_18 C dX4_copyFrom_22 ho.1 ho.k ?_
  refine r_iconst C dX4_copyFrom_25 ic_0 ?_
  refine r_aload_n C dX4_copyFrom_26 rfl ?_
  refine gf_X4_18 C dX4_copyFrom_27 hr.1 hr.k ?_
  refine r_iconst C dX4_copyFrom_30 ic_0 ?_
  refine r_iconst C dX4_copyFrom_31 ic_5 ?_
  refine r_copy C dX4_copyFrom_32 kw_7_8 ho.2.2.1 hr.2.2.1 ho.2.2.2 hr.2.2.2 kn_5 rfl rfl rfl ?_
  refine r_aload_n C dX4_copyFrom_35 rfl ?_
  refine r_aload_n C dX4_copyFrom_36 rfl ?_
  refine gf_X4_39 C dX4_copyFrom_37 ho.1 ho.k ?_
  refine pf_X4_39 C dX4_copyFrom_40 hr.1 hr.k ?_
  refine r_aload_n C dX4_copyFrom_43 rfl ?_
  refine r_aload_n C dX4_copyFrom_44 rfl ?_
  refine gf_X4_42 C dX4_copyFrom_45 ho.1 ho.k ?_
  refine pf_X4_42 C dX4_copyFrom_48 hr.1 hr.k ?_
  refine WM_conv (v1 := cpRow (cpRow (cpRow v k o) (k + 1) (o + 1)) (k + 2) (o + 2)) (fun q hq => ?_) ?_
  · by_cases h0 : q = k
    · subst h0
      rw [hr.1]
      simp (disch := omega) only [cpRow_r, cpRow_o, u2_r, u2_o]
      all_goals rfl
    · skip
      by_cases h1 : q = k + 1
      · subst h1
        rw [hr.2.1]
        simp (disch := omega) only [cpRow_r, cpRow_o, u2_r, u2_o]
        all_goals rfl
      · skip
        by_cases h2 : q = k + 2
        · subst h2
          rw [hr.2.2.1]
          simp (disch := omega) only [cpRow_r, cpRow_o, u2_r, u2_o]
          all_goals rfl
        · skip
          simp (disch := omega) only [cpRow_o, u2_o]
  exact hE _ _ _ dX4_copyFrom_51 (by first | with_reducible exact ⟨rfl, rfl⟩ | simp [pV])
set_option maxRecDepth 100000 in
set_option maxHeartbeats 4000000 in
theorem c_X2_makeNew {g : mG} {l : Launch} {tpl : mT} {b n : Nat} {v : mV} (k : Nat) (ht : tpl k = tIncident) (hk : k < n) (x y z : Int32) : CT g l tpl b n yX2_makeNew cX2_makeNew 4 none rm_X2_makeNew [.ref (b + k), .int x, .int y, .int z] v (pV (inNew v k x y z)) := by
  refine CT.introV [some (.ref (b + k)), some (.int x), some (.int y), some (.int z)] (own := RX2) (by decide +kernel) rfl rfl rfl rfl ?_
  intro p e s m args below meth c Q C hE
  refine r_aload_n C dX2_makeNew_0 rfl ?_
  refine r_iconst C dX2_makeNew_1 ic_1 ?_
  refine pf_X2_9 C (Or.inr rfl) dX2_makeNew_2 ht hk ?_
  refine r_aload_n C dX2_makeNew_5 rfl ?_
  refine r_iload_n C dX2_makeNew_6 rfl ?_
  refine pf_X2_15 C dX2_makeNew_7 ht hk ?_
  refine r_aload_n C dX2_makeNew_10 rfl ?_
  refine r_iload_n C dX2_makeNew_11 rfl ?_
  refine pf_X2_19 C dX2_makeNew_12 ht hk ?_
  refine r_aload_n C dX2_makeNew_15 rfl ?_
  refine r_iconst C dX2_makeNew_16 ic_0 ?_
  refine pf_X2_22 C dX2_makeNew_17 ht hk ?_
  refine r_aload_n C dX2_makeNew_20 rfl ?_
  refine r_iconst C dX2_makeNew_21 ic_m1 ?_
  refine pf_X2_25 C dX2_makeNew_22 ht hk ?_
  refine r_aload_n C dX2_makeNew_25 rfl ?_
  refine r_iconst C dX2_makeNew_26 ic_m1 ?_
  refine pf_X2_28 C dX2_makeNew_27 ht hk ?_
  refine r_aload_n C dX2_makeNew_30 rfl ?_
  refine r_iconst C dX2_makeNew_31 ic_m1 ?_
  refine pf_X2_31 C dX2_makeNew_32 ht hk ?_
  refine r_aload_n C dX2_makeNew_35 rfl ?_
  refine r_iconst C dX2_makeNew_36 ic_0 ?_
  refine pf_X2_34 C (Or.inl rfl) dX2_makeNew_37 ht hk ?_
  refine r_aload_n C dX2_makeNew_40 rfl ?_
  refine r_iconst C dX2_makeNew_41 ic_1 ?_
  refine pf_X2_37 C dX2_makeNew_42 ht hk ?_
  refine r_aload_n C dX2_makeNew_45 rfl ?_
  refine r_iload_n C dX2_makeNew_46 rfl ?_
  refine pf_X2_40 C dX2_makeNew_47 ht hk ?_
  refine r_aload_n C dX2_makeNew_50 rfl ?_
  refine r_iload_n C dX2_makeNew_51 rfl ?_
  refine pf_X2_43 C dX2_makeNew_52 ht hk ?_
  refine r_aload_n C dX2_makeNew_55 rfl ?_
  refine r_iconst C dX2_makeNew_56 ic_0 ?_
  refine pf_X2_46 C dX2_makeNew_57 ht hk ?_
  refine r_aload_n C dX2_makeNew_60 rfl ?_
  refine r_iconst C dX2_makeNew_61 ic_0 ?_
  refine pf_X2_49 C dX2_makeNew_62 ht hk ?_
  refine r_aload_n C dX2_makeNew_65 rfl ?_
  refine r_iconst C dX2_makeNew_66 ic_0 ?_
  refine pf_X2_52 C dX2_makeNew_67 ht hk ?_
  refine WM_conv (v1 := inNew v k x y z) (fun q hq => ?_) ?_
  · by_cases hqk : q = k
    · subst hqk
      rw [ht]
      simp only [inNew, if_true, u2_r]
      all_goals rfl
    · simp only [inNew, if_neg hqk, u2_o hqk]
  exact hE _ _ _ dX2_makeNew_70 (by first | with_reducible exact ⟨rfl, rfl⟩ | simp [pV])
set_option maxRecDepth 100000 in
set_option maxHeartbeats 4000000 in
theorem c_X9_numbered {g : mG} {l : Launch} {tpl : mT} {b n : Nat} {v : mV} (k : Nat) (ht : tpl k = tTotals) (hk : k < n) (x : Int32) : CT g l tpl b n yX9_numbered cX9_numbered 2 (some .int) rm_X9_numbered [.ref (b + k), .int x] v (pI (toNum v k x) v) := by
  refine CT.introI [some (.ref (b + k)), some (.int x)] (own := RX9) (by decide +kernel) rfl rfl rfl rfl ?_
  intro p e s m args below meth c Q C hE
  refine r_iload_n C dX9_numbered_0 rfl ?_
  by_cases s_6 : x = 6
  · skip
    refine r_tsw (y := 6) (off := 43) (tgt := 44) C dX9_numbered_1 s_6 (by decide +kernel) rfl ?_
    refine r_aload_n C dX9_numbered_44 rfl ?_
    refine gf_X9_9 C dX9_numbered_45 ht hk ?_
    exact hE _ _ _ _ dX9_numbered_48 (by simp [pI, toNum, s_6])
  by_cases s_7 : x = 7
  · skip
    refine r_tsw (y := 7) (off := 48) (tgt := 49) C dX9_numbered_1 s_7 (by decide +kernel) rfl ?_
    refine r_aload_n C dX9_numbered_49 rfl ?_
    refine gf_X9_15 C dX9_numbered_50 ht hk ?_
    exact hE _ _ _ _ dX9_numbered_53 (by simp [pI, toNum, s_6, s_7])
  by_cases s_8 : x = 8
  · skip
    refine r_tsw (y := 8) (off := 53) (tgt := 54) C dX9_numbered_1 s_8 (by decide +kernel) rfl ?_
    refine r_aload_n C dX9_numbered_54 rfl ?_
    refine gf_X9_18 C dX9_numbered_55 ht hk ?_
    exact hE _ _ _ _ dX9_numbered_58 (by simp [pI, toNum, s_6, s_7, s_8])
  by_cases s_9 : x = 9
  · skip
    refine r_tsw (y := 9) (off := 58) (tgt := 59) C dX9_numbered_1 s_9 (by decide +kernel) rfl ?_
    refine r_aload_n C dX9_numbered_59 rfl ?_
    refine gf_X9_21 C dX9_numbered_60 ht hk ?_
    exact hE _ _ _ _ dX9_numbered_63 (by simp [pI, toNum, s_6, s_7, s_8, s_9])
  by_cases s_10 : x = 10
  · skip
    refine r_tsw (y := 10) (off := 63) (tgt := 64) C dX9_numbered_1 s_10 (by decide +kernel) rfl ?_
    refine r_aload_n C dX9_numbered_64 rfl ?_
    refine gf_X9_24 C dX9_numbered_65 ht hk ?_
    exact hE _ _ _ _ dX9_numbered_68 (by simp [pI, toNum, s_6, s_7, s_8, s_9, s_10])
  by_cases s_11 : x = 11
  · skip
    refine r_tsw (y := 11) (off := 68) (tgt := 69) C dX9_numbered_1 s_11 (by decide +kernel) rfl ?_
    refine r_aload_n C dX9_numbered_69 rfl ?_
    refine gf_X9_27 C dX9_numbered_70 ht hk ?_
    exact hE _ _ _ _ dX9_numbered_73 (by simp [pI, toNum, s_6, s_7, s_8, s_9, s_10, s_11])
  by_cases s_12 : x = 12
  · skip
    refine r_tsw (y := 12) (off := 73) (tgt := 74) C dX9_numbered_1 s_12 (by decide +kernel) rfl ?_
    refine r_aload_n C dX9_numbered_74 rfl ?_
    refine gf_X9_30 C dX9_numbered_75 ht hk ?_
    exact hE _ _ _ _ dX9_numbered_78 (by simp [pI, toNum, s_6, s_7, s_8, s_9, s_10, s_11, s_12])
  refine r_tswd (tgt := 79) (lo := 6) (cnt := 7) C dX9_numbered_1 (fun j hj => match j, hj with | 0, _ => s_6 | 1, _ => s_7 | 2, _ => s_8 | 3, _ => s_9 | 4, _ => s_10 | 5, _ => s_11 | 6, _ => s_12 | (j + 7), h => absurd h (by omega)) rfl rfl ?_
  refine r_iconst C dX9_numbered_79 ic_m1 ?_
  exact hE _ _ _ _ dX9_numbered_80 (by simp [pI, toNum, s_6, s_7, s_8, s_9, s_10, s_11, s_12])
