/-! ===== Rotas ===== -/
def fIn (x c lim : Int32) : Int32 := if x < 0 then 0 else if x < c then (if x < lim then 1 else 0) else 0
theorem fIn_01 (x c lim : Int32) : fIn x c lim = 0 ∨ fIn x c lim = 1 := by
  unfold fIn
  repeat' split
  all_goals simp
theorem fIn_of {x c lim : Int32} {k : Nat} (hk : lim = nI k) (hz : k < 2147483648) (h : ¬ fIn x c lim = 0) : ∃ j, j < k ∧ x = nI j := by
  unfold fIn at h
  split at h
  · exact absurd rfl h
  · rename_i h0
    split at h
    · split at h
      · rename_i h2
        exact na_of hk hz h0 h2
      · exact absurd rfl h
    · exact absurd rfl h
def rsAddPerson (v : mV) (h : Nat) : Int32 × mV := if v (h + 1) 3 < 0 then (-3, v) else if v (h + 1) 3 < 8 then (v (h + 1) 3, u2 v (h + 1) 3 (v (h + 1) 3 + 1)) else (-3, v)
def rgPut (v : mV) (k : Nat) (x y z : Int32) : mV := u2 (u2 (u2 v (k + 1) 0 x) (k + 1) 1 y) k 2 z
def rsAddRegion (v : mV) (h : Nat) (x y z : Int32) : Int32 × mV :=
  if fIsHour x = 0 then (-1, v) else if fIsHour y = 0 then (-1, v) else if x = y then (-1, v) else if z < 1 then (-1, v) else if 24 < z then (-1, v)
  else if v (h + 1) 4 < 0 then (-3, v) else if v (h + 1) 4 < 3 then (v (h + 1) 4, u2 (rgPut v (h + (21 + 3 * (v (h + 1) 4).toNatClampNeg)) x y z) (h + 1) 4 (v (h + 1) 4 + 1)) else (-3, v)
def rsHasP (v : mV) (h : Nat) (x : Int32) : Int32 := fIn x (v (h + 1) 3) 8
def rsHasR (v : mV) (h : Nat) (x : Int32) : Int32 := fIn x (v (h + 1) 4) 3
def rsJoin (v : mV) (h : Nat) (x y : Int32) : Int32 × mV := if rsHasR v h x = 0 then (-1, v) else if rsHasP v h y = 0 then (-1, v) else rgAdd v (h + (21 + 3 * x.toNatClampNeg)) y
def rsLeave (v : mV) (h : Nat) (x y : Int32) : Int32 × mV := if rsHasR v h x = 0 then (-1, v) else if rsHasP v h y = 0 then (-1, v) else rgRem v (h + (21 + 3 * x.toNatClampNeg)) y
def rsQuiet (v : mV) (h : Nat) (x y z : Int32) : Int32 × mV := if rsHasP v h x = 0 then (-1, v) else if fIsHour y = 0 then (-1, v) else if fIsHour z = 0 then (-1, v)
  else (if z < y then z - y + 24 else z - y, u2 (u2 v (h + (5 + 2 * x.toNatClampNeg) + 1) 0 y) (h + (5 + 2 * x.toNatClampNeg) + 1) 1 z)
def rsRegsLp (v : mV) (h : Nat) (x : Int32) : Nat → Nat → Int32 → Int32
  | 0, _, a => a
  | r + 1, i, a => if nI i < v (h + 1) 4 then rsRegsLp v h x r (i + 1) (if rgPlace (v (h + (21 + 3 * i)) 3) (v (h + (21 + 3 * i) + 2)) x 5 0 = -1 then a else a ||| (1 <<< (nI i &&& 31))) else a
def rsForceLp (v : mV) (h : Nat) (t : Int32) : Nat → Nat → Int32 → Int32
  | 0, _, a => a
  | r + 1, i, a => if nI i < v (h + 1) 5 then rsForceLp v h t r (i + 1) (if t < v (h + (30 + i)) 2 then a + 1 else a) else a
def rsDropLp (h : Nat) (t : Int32) : Nat → Nat → Nat → mV → Nat × mV
  | 0, _, kp, v => (kp, v)
  | r + 1, i, kp, v => if nI i < v (h + 1) 5 then (if t < v (h + (30 + i)) 2 then rsDropLp h t r (i + 1) (kp + 1) (cpRow v (h + (30 + kp)) (h + (30 + i))) else rsDropLp h t r (i + 1) kp v) else (kp, v)
def rsDrop (v : mV) (h : Nat) (t : Int32) : mV := u2 (rsDropLp h t 6 0 0 v).2 (h + 1) 5 (nI (rsDropLp h t 6 0 0 v).1)
def rsAddStand (v : mV) (h : Nat) (x y t e : Int32) : Int32 × mV :=
  if rsDrop v h t (h + 1) 5 < 0 then (-3, rsDrop v h t) else if rsDrop v h t (h + 1) 5 < 6 then
    (rsDrop v h t (h + 1) 5 + 1, u2 (u2 (u2 (u2 (rsDrop v h t) (h + (30 + (rsDrop v h t (h + 1) 5).toNatClampNeg)) 0 x) (h + (30 + (rsDrop v h t (h + 1) 5).toNatClampNeg)) 1 y) (h + (30 + (rsDrop v h t (h + 1) 5).toNatClampNeg)) 2 e) (h + 1) 5 (rsDrop v h t (h + 1) 5 + 1))
  else (-3, rsDrop v h t)
def rsRegionLp (v : mV) (h : Nat) (hr : Int32) : Nat → Nat → Int32
  | 0, _ => -1
  | r + 1, i => if nI i < v (h + 1) 4 then (if fCovers (v (h + (21 + 3 * i)) 3) (v (h + (21 + 3 * i) + 1) 0) (v (h + (21 + 3 * i) + 1) 1) hr = 0 then rsRegionLp v h hr r (i + 1) else nI i) else -1
def rsRegionAt (v : mV) (h : Nat) (t : Int32) : Int32 := rsRegionLp v h (fHour t) 3 0
def rsPick (v : mV) (k : Nat) (t lv : Int32) : Int32 := if v k 2 < 1 then -1 else if v k 3 < 1 then -1 else rgMember (v k 3) (v (k + 2)) (t / 60 / v k 2 + lv - (t / 60 / v k 2 + lv) / v k 3 * v k 3)
def rsStandLp (v : mV) (h : Nat) (rg t d : Int32) : Nat → Int32
  | 0 => d
  | r + 1 => if v (h + (30 + r)) 0 = rg then (if t < v (h + (30 + r)) 2 then v (h + (30 + r)) 1 else rsStandLp v h rg t d r) else rsStandLp v h rg t d r
def rsPersonAt (v : mV) (h : Nat) (rg t lv : Int32) : Int32 := if rg < 0 then -1 else if rg < 3 then (if lv < 0 then -1 else if t < 0 then -1 else if lv = 0 then rsStandLp v h rg t (rsPick v (h + (21 + 3 * rg.toNatClampNeg)) t lv) (v (h + 1) 5).toNatClampNeg else rsPick v (h + (21 + 3 * rg.toNatClampNeg)) t lv) else -1
theorem ite0 {P : Prop} [Decidable P] : (if P then (1 : Int32) else 0) = 0 ↔ ¬ P := by
  by_cases h : P <;> simp [h]
theorem rsDropLp_le (h : Nat) (t : Int32) : ∀ (r i kp : Nat) (v : mV), kp ≤ i → (rsDropLp h t r i kp v).1 ≤ i + r
  | 0, i, kp, v, hk => hk
  | r + 1, i, kp, v, hk => by
    unfold rsDropLp
    split
    · split
      · have := rsDropLp_le h t r (i + 1) (kp + 1) (cpRow v (h + (30 + kp)) (h + (30 + i))) (by omega); omega
      · have := rsDropLp_le h t r (i + 1) kp v (by omega); omega
    · show kp ≤ _
      omega
/-- rows m of a block of h become o's -/
def cpB (v : mV) (h o a m : Nat) : mV := fun q => if h + a ≤ q ∧ q < h + (a + m) then v (q - h + o) else v q
theorem cpB_0 (v : mV) (h o a : Nat) : cpB v h o a 0 = v := by
  funext q
  unfold cpB
  rw [if_neg (by omega)]
theorem cpB_row {w v : mV} {h o a m : Nat} (hd : h + 46 ≤ o ∨ o + 46 ≤ h) (hm : a + m < 46) (hw : w = cpB v h o a m) : cpRow w (h + (a + m)) (o + (a + m)) = cpB v h o a (m + 1) := by
  subst hw
  funext q
  by_cases hq : q = h + (a + m)
  · subst hq
    rw [cpRow_r]
    unfold cpB
    rw [if_neg (by omega), if_pos (by omega)]
    congr 1
    omega
  · rw [cpRow_o hq]
    unfold cpB
    by_cases h1 : h + a ≤ q ∧ q < h + (a + m)
    · rw [if_pos h1, if_pos (by omega)]
    · rw [if_neg h1, if_neg (by omega)]
theorem cpB_out {v : mV} {h o a m q : Nat} (hq : q < h + a ∨ h + (a + m) ≤ q) : cpB v h o a m q = v q := by
  unfold cpB
  rw [if_neg (by omega)]
theorem cpB_in {v : mV} {h o a m j : Nat} (h1 : a ≤ j) (h2 : j < a + m) : cpB v h o a m (h + j) = v (o + j) := by
  unfold cpB
  rw [if_pos (by omega)]
  congr 1
  omega
set_option maxRecDepth 100000 in
set_option maxHeartbeats 4000000 in
theorem c_X5_hasPerson {g : mG} {l : Launch} {tpl : mT} {b n : Nat} {v : mV} (h : Nat) (t : isT g tpl b n h) (x : Int32) : CT g l tpl b n yX5_hasPerson cX5_hasPerson 2 (some .boolean) rm_X5_hasPerson [.ref (b + (h + 1)), .int x] v (pI (rsHasP v h x) v) := by
  refine CT.introZ [some (.ref (b + (h + 1))), some (.int x)] (own := RX5) (by decide +kernel) rfl rfl rfl rfl ?_
  intro p e s m args below meth c Q C hE
  refine r_iload_n C dX5_hasPerson_0 rfl ?_
  refine r_if_lt (tgt := 25) C dX5_hasPerson_1 rfl (fun c_1 => ?_) (fun c_1 => ?_)
  · skip
    refine r_iconst C dX5_hasPerson_25 ic_0 ?_
    exact hE _ _ _ _ (nar_b (Or.inl rfl)) dX5_hasPerson_26 (by first | with_reducible exact ⟨rfl, rfl⟩ | (simp (disch := omega) [pI, pV, rsHasP, fIn, c_1, u2_o, u2_r, upd_o, upd_r]))
  · skip
    refine r_iload_n C dX5_hasPerson_4 rfl ?_
    refine r_aload_n C dX5_hasPerson_5 rfl ?_
    refine gf_X5_42 C dX5_hasPerson_6 t.1 (t.k (by decide)) ?_
    refine r_icmp_ge (tgt := 25) C dX5_hasPerson_9 rfl (fun c_9 => ?_) (fun c_9 => ?_)
    · skip
      refine r_iconst C dX5_hasPerson_25 ic_0 ?_
      exact hE _ _ _ _ (nar_b (Or.inl rfl)) dX5_hasPerson_26 (by first | with_reducible exact ⟨rfl, rfl⟩ | (simp (disch := omega) [pI, pV, rsHasP, fIn, c_1, c_9, u2_o, u2_r, upd_o, upd_r]))
    · skip
      refine r_iload_n C dX5_hasPerson_12 rfl ?_
      refine r_aload_n C dX5_hasPerson_13 rfl ?_
      refine gf_X5_11 C dX5_hasPerson_14 t.1 (t.k (by decide)) ?_
      refine r_alen C dX5_hasPerson_17 t.2.1 rfl (t.k (by decide)) kn_8.symm ?_
      refine r_icmp_ge (tgt := 25) C dX5_hasPerson_18 rfl (fun c_18 => ?_) (fun c_18 => ?_)
      · skip
        refine r_iconst C dX5_hasPerson_25 ic_0 ?_
        exact hE _ _ _ _ (nar_b (Or.inl rfl)) dX5_hasPerson_26 (by first | with_reducible exact ⟨rfl, rfl⟩ | (simp (disch := omega) [pI, pV, rsHasP, fIn, c_1, c_9, c_18, u2_o, u2_r, upd_o, upd_r]))
      · skip
        refine r_iconst C dX5_hasPerson_21 ic_1 ?_
        refine r_goto (tgt := 26) C dX5_hasPerson_22 rfl ?_
        exact hE _ _ _ _ (nar_b (Or.inr rfl)) dX5_hasPerson_26 (by first | with_reducible exact ⟨rfl, rfl⟩ | (simp (disch := omega) [pI, pV, rsHasP, fIn, c_1, c_9, c_18, u2_o, u2_r, upd_o, upd_r]))
set_option maxRecDepth 100000 in
set_option maxHeartbeats 4000000 in
theorem c_X5_hasRegion {g : mG} {l : Launch} {tpl : mT} {b n : Nat} {v : mV} (h : Nat) (t : isT g tpl b n h) (x : Int32) : CT g l tpl b n yX5_hasRegion cX5_hasRegion 2 (some .boolean) rm_X5_hasRegion [.ref (b + (h + 1)), .int x] v (pI (rsHasR v h x) v) := by
  refine CT.introZ [some (.ref (b + (h + 1))), some (.int x)] (own := RX5) (by decide +kernel) rfl rfl rfl rfl ?_
  intro p e s m args below meth c Q C hE
  refine r_iload_n C dX5_hasRegion_0 rfl ?_
  refine r_if_lt (tgt := 25) C dX5_hasRegion_1 rfl (fun c_1 => ?_) (fun c_1 => ?_)
  · skip
    refine r_iconst C dX5_hasRegion_25 ic_0 ?_
    exact hE _ _ _ _ (nar_b (Or.inl rfl)) dX5_hasRegion_26 (by first | with_reducible exact ⟨rfl, rfl⟩ | (simp (disch := omega) [pI, pV, rsHasR, fIn, c_1, u2_o, u2_r, upd_o, upd_r]))
  · skip
    refine r_iload_n C dX5_hasRegion_4 rfl ?_
    refine r_aload_n C dX5_hasRegion_5 rfl ?_
    refine gf_X5_46 C dX5_hasRegion_6 t.1 (t.k (by decide)) ?_
    refine r_icmp_ge (tgt := 25) C dX5_hasRegion_9 rfl (fun c_9 => ?_) (fun c_9 => ?_)
    · skip
      refine r_iconst C dX5_hasRegion_25 ic_0 ?_
      exact hE _ _ _ _ (nar_b (Or.inl rfl)) dX5_hasRegion_26 (by first | with_reducible exact ⟨rfl, rfl⟩ | (simp (disch := omega) [pI, pV, rsHasR, fIn, c_1, c_9, u2_o, u2_r, upd_o, upd_r]))
    · skip
      refine r_iload_n C dX5_hasRegion_12 rfl ?_
      refine r_aload_n C dX5_hasRegion_13 rfl ?_
      refine gf_X5_19 C dX5_hasRegion_14 t.1 (t.k (by decide)) ?_
      refine r_alen C dX5_hasRegion_17 t.2.2.1 rfl (t.k (by decide)) kn_3.symm ?_
      refine r_icmp_ge (tgt := 25) C dX5_hasRegion_18 rfl (fun c_18 => ?_) (fun c_18 => ?_)
      · skip
        refine r_iconst C dX5_hasRegion_25 ic_0 ?_
        exact hE _ _ _ _ (nar_b (Or.inl rfl)) dX5_hasRegion_26 (by first | with_reducible exact ⟨rfl, rfl⟩ | (simp (disch := omega) [pI, pV, rsHasR, fIn, c_1, c_9, c_18, u2_o, u2_r, upd_o, upd_r]))
      · skip
        refine r_iconst C dX5_hasRegion_21 ic_1 ?_
        refine r_goto (tgt := 26) C dX5_hasRegion_22 rfl ?_
        exact hE _ _ _ _ (nar_b (Or.inr rfl)) dX5_hasRegion_26 (by first | with_reducible exact ⟨rfl, rfl⟩ | (simp (disch := omega) [pI, pV, rsHasR, fIn, c_1, c_9, c_18, u2_o, u2_r, upd_o, upd_r]))
set_option maxRecDepth 100000 in
set_option maxHeartbeats 4000000 in
theorem c_X5_addPerson {g : mG} {l : Launch} {tpl : mT} {b n : Nat} {v : mV} (h : Nat) (t : isT g tpl b n h) : CT g l tpl b n yX5_addPerson cX5_addPerson 2 (some .int) rm_X5_addPerson [.ref (b + (h + 1))] v (pI (rsAddPerson v h).1 (rsAddPerson v h).2) := by
  refine CT.introI [some (.ref (b + (h + 1))), none] (own := RX5) (by decide +kernel) rfl rfl rfl rfl ?_
  intro p e s m args below meth c Q C hE
  refine r_aload_n C dX5_addPerson_0 rfl ?_
  refine gf_X5_42 C dX5_addPerson_1 t.1 (t.k (by decide)) ?_
  refine r_istore_n C dX5_addPerson_4 rfl rfl ?_
  refine r_iload_n C dX5_addPerson_5 rfl ?_
  refine r_if_lt (tgt := 18) C dX5_addPerson_6 rfl (fun c_6 => ?_) (fun c_6 => ?_)
  · skip
    refine r_bipush C dX5_addPerson_18 bp_m3 ?_
    exact hE _ _ _ _ dX5_addPerson_20 (by first | with_reducible exact ⟨rfl, rfl⟩ | (simp (disch := omega) [pI, pV, rsAddPerson, c_6, u2_o, u2_r, upd_o, upd_r]))
  · skip
    refine r_iload_n C dX5_addPerson_9 rfl ?_
    refine r_aload_n C dX5_addPerson_10 rfl ?_
    refine gf_X5_11 C dX5_addPerson_11 t.1 (t.k (by decide)) ?_
    refine r_alen C dX5_addPerson_14 t.2.1 rfl (t.k (by decide)) kn_8.symm ?_
    refine r_icmp_lt (tgt := 21) C dX5_addPerson_15 rfl (fun c_15 => ?_) (fun c_15 => ?_)
    · skip
      refine r_aload_n C dX5_addPerson_21 rfl ?_
      refine r_dup C dX5_addPerson_22 rfl ?_
      refine gf_X5_42 C dX5_addPerson_23 t.1 (t.k (by decide)) ?_
      refine r_iconst C dX5_addPerson_26 ic_1 ?_
      refine r_iadd C dX5_addPerson_27 ?_
      refine pf_X5_42 C dX5_addPerson_28 t.1 (t.k (by decide)) ?_
      refine r_iload_n C dX5_addPerson_31 rfl ?_
      exact hE _ _ _ _ dX5_addPerson_32 (by first | with_reducible exact ⟨rfl, rfl⟩ | (simp (disch := omega) [pI, pV, rsAddPerson, c_6, c_15, u2_o, u2_r, upd_o, upd_r]))
    · skip
      refine r_bipush C dX5_addPerson_18 bp_m3 ?_
      exact hE _ _ _ _ dX5_addPerson_20 (by first | with_reducible exact ⟨rfl, rfl⟩ | (simp (disch := omega) [pI, pV, rsAddPerson, c_6, c_15, u2_o, u2_r, upd_o, upd_r]))
set_option maxRecDepth 100000 in
set_option maxHeartbeats 4000000 in
theorem c_X5_addRegion {g : mG} {l : Launch} {tpl : mT} {b n : Nat} {v : mV} (h : Nat) (t : isT g tpl b n h) (x y z : Int32) : CT g l tpl b n yX5_addRegion cX5_addRegion 5 (some .int) rm_X5_addRegion [.ref (b + (h + 1)), .int x, .int y, .int z] v (pI (rsAddRegion v h x y z).1 (rsAddRegion v h x y z).2) := by
  refine CT.introI [some (.ref (b + (h + 1))), some (.int x), some (.int y), some (.int z), none] (own := RX5) (by decide +kernel) rfl rfl rfl rfl ?_
  intro p e s m args below meth c Q C hE
  refine r_iload_n C dX5_addRegion_0 rfl ?_
  refine cvI_X5_52 C dX5_addRegion_1 (c_X7_isHour _) ⟨rfl, rfl⟩ rfl rfl rfl ?_
  refine r_if_eq (tgt := 30) C dX5_addRegion_4 rfl (fun c_4 => ?_) (fun c_4 => ?_)
  · skip
    refine r_iconst C dX5_addRegion_30 ic_m1 ?_
    exact hE _ _ _ _ dX5_addRegion_31 (by first | with_reducible exact ⟨rfl, rfl⟩ | (simp (disch := omega) [pI, pV, rsAddRegion, rgPut, c_4, u2_o, u2_r, upd_o, upd_r]))
  · skip
    refine r_iload_n C dX5_addRegion_7 rfl ?_
    refine cvI_X5_52 C dX5_addRegion_8 (c_X7_isHour _) ⟨rfl, rfl⟩ rfl rfl rfl ?_
    refine r_if_eq (tgt := 30) C dX5_addRegion_11 rfl (fun c_11 => ?_) (fun c_11 => ?_)
    · skip
      refine r_iconst C dX5_addRegion_30 ic_m1 ?_
      exact hE _ _ _ _ dX5_addRegion_31 (by first | with_reducible exact ⟨rfl, rfl⟩ | (simp (disch := omega) [pI, pV, rsAddRegion, rgPut, c_4, c_11, u2_o, u2_r, upd_o, upd_r]))
    · skip
      refine r_iload_n C dX5_addRegion_14 rfl ?_
      refine r_iload_n C dX5_addRegion_15 rfl ?_
      refine r_icmp_eq (tgt := 30) C dX5_addRegion_16 rfl (fun c_16 => ?_) (fun c_16 => ?_)
      · skip
        refine r_iconst C dX5_addRegion_30 ic_m1 ?_
        exact hE _ _ _ _ dX5_addRegion_31 (by first | with_reducible exact ⟨rfl, rfl⟩ | (simp (disch := omega) [pI, pV, rsAddRegion, rgPut, c_4, c_11, c_16, u2_o, u2_r, upd_o, upd_r]))
      · skip
        refine r_iload_n C dX5_addRegion_19 rfl ?_
        refine r_iconst C dX5_addRegion_20 ic_1 ?_
        refine r_icmp_lt (tgt := 30) C dX5_addRegion_21 rfl (fun c_21 => ?_) (fun c_21 => ?_)
        · skip
          refine r_iconst C dX5_addRegion_30 ic_m1 ?_
          exact hE _ _ _ _ dX5_addRegion_31 (by first | with_reducible exact ⟨rfl, rfl⟩ | (simp (disch := omega) [pI, pV, rsAddRegion, rgPut, c_4, c_11, c_16, c_21, u2_o, u2_r, upd_o, upd_r]))
        · skip
          refine r_iload_n C dX5_addRegion_24 rfl ?_
          refine r_bipush C dX5_addRegion_25 bp_24 ?_
          refine r_icmp_le (tgt := 32) C dX5_addRegion_27 rfl (fun c_27 => ?_) (fun c_27 => ?_)
          · skip
            refine r_aload_n C dX5_addRegion_32 rfl ?_
            refine gf_X5_46 C dX5_addRegion_33 t.1 (t.k (by decide)) ?_
            refine r_istore C dX5_addRegion_36 rfl rfl ?_
            refine r_iload C dX5_addRegion_38 rfl ?_
            refine r_if_lt (tgt := 53) C dX5_addRegion_40 rfl (fun c_40 => ?_) (fun c_40 => ?_)
            · skip
              refine r_bipush C dX5_addRegion_53 bp_m3 ?_
              exact hE _ _ _ _ dX5_addRegion_55 (by first | with_reducible exact ⟨rfl, rfl⟩ | (simp (disch := omega) [pI, pV, rsAddRegion, rgPut, c_4, c_11, c_16, c_21, c_27, c_40, u2_o, u2_r, upd_o, upd_r]))
            · skip
              refine r_iload C dX5_addRegion_43 rfl ?_
              refine r_aload_n C dX5_addRegion_45 rfl ?_
              refine gf_X5_19 C dX5_addRegion_46 t.1 (t.k (by decide)) ?_
              refine r_alen C dX5_addRegion_49 t.2.2.1 rfl (t.k (by decide)) kn_3.symm ?_
              refine r_icmp_lt (tgt := 56) C dX5_addRegion_50 rfl (fun c_50 => ?_) (fun c_50 => ?_)
              · skip
                obtain ⟨j, hj, ej⟩ := na_of kn_3 (by decide) c_40 c_50
                have nc : (v (h + 1) 4).toNatClampNeg = j := by rw [ej]; exact nI_clamp (by omega)
                refine r_aload_n C dX5_addRegion_56 rfl ?_
                refine gf_X5_19 C dX5_addRegion_57 t.1 (t.k (by decide)) ?_
                refine r_iload C dX5_addRegion_60 rfl ?_
                refine r_aald (t0 := 5) C dX5_addRegion_62 t.2.2.1 rfl (t.k (by decide)) (j := j) ej hj rfl rfl ?_
                refine r_iload_n C dX5_addRegion_63 rfl ?_
                refine r_iload_n C dX5_addRegion_64 rfl ?_
                refine r_iload_n C dX5_addRegion_65 rfl ?_
                refine cvV_X5_58 C dX5_addRegion_66 (c_X4_put _ (t.2.2.2.2.2.1 j hj) _ _ _) (t.2.2.2.2.2.1 j hj).1 (t.2.2.2.2.2.1 j hj).k ⟨rfl, rfl⟩ rfl rfl rfl ?_
                refine r_aload_n C dX5_addRegion_69 rfl ?_
                refine r_dup C dX5_addRegion_70 rfl ?_
                refine gf_X5_46 C dX5_addRegion_71 t.1 (t.k (by decide)) ?_
                refine r_iconst C dX5_addRegion_74 ic_1 ?_
                refine r_iadd C dX5_addRegion_75 ?_
                refine pf_X5_46 C dX5_addRegion_76 t.1 (t.k (by decide)) ?_
                refine r_iload C dX5_addRegion_79 rfl ?_
                exact hE _ _ _ _ dX5_addRegion_81 (by first | with_reducible exact ⟨rfl, rfl⟩ | (simp (disch := omega) [pI, pV, rsAddRegion, rgPut, c_4, c_11, c_16, c_21, c_27, c_40, c_50, nc, u2_o, u2_r, upd_o, upd_r]))
              · skip
                refine r_bipush C dX5_addRegion_53 bp_m3 ?_
                exact hE _ _ _ _ dX5_addRegion_55 (by first | with_reducible exact ⟨rfl, rfl⟩ | (simp (disch := omega) [pI, pV, rsAddRegion, rgPut, c_4, c_11, c_16, c_21, c_27, c_40, c_50, u2_o, u2_r, upd_o, upd_r]))
          · skip
            refine r_iconst C dX5_addRegion_30 ic_m1 ?_
            exact hE _ _ _ _ dX5_addRegion_31 (by first | with_reducible exact ⟨rfl, rfl⟩ | (simp (disch := omega) [pI, pV, rsAddRegion, rgPut, c_4, c_11, c_16, c_21, c_27, u2_o, u2_r, upd_o, upd_r]))
set_option maxRecDepth 100000 in
set_option maxHeartbeats 4000000 in
theorem c_X5_letJoin {g : mG} {l : Launch} {tpl : mT} {b n : Nat} {v : mV} (h : Nat) (t : isT g tpl b n h) (x y : Int32) : CT g l tpl b n yX5_letJoin cX5_letJoin 3 (some .int) rm_X5_letJoin [.ref (b + (h + 1)), .int x, .int y] v (pI (rsJoin v h x y).1 (rsJoin v h x y).2) := by
  refine CT.introI [some (.ref (b + (h + 1))), some (.int x), some (.int y)] (own := RX5) (by decide +kernel) rfl rfl rfl rfl ?_
  intro p e s m args below meth c Q C hE
  refine r_aload_n C dX5_letJoin_0 rfl ?_
  refine r_iload_n C dX5_letJoin_1 rfl ?_
  refine cvI_X5_62 C dX5_letJoin_2 (c_X5_hasRegion h t _) t.1 (t.k (by decide)) ⟨rfl, rfl⟩ rfl rfl rfl ?_
  refine r_if_eq (tgt := 16) C dX5_letJoin_5 rfl (fun c_5 => ?_) (fun c_5 => ?_)
  · skip
    refine r_iconst C dX5_letJoin_16 ic_m1 ?_
    exact hE _ _ _ _ dX5_letJoin_17 (by first | with_reducible exact ⟨rfl, rfl⟩ | (simp (disch := omega) [pI, pV, rsJoin, c_5, u2_o, u2_r, upd_o, upd_r]))
  · skip
    refine r_aload_n C dX5_letJoin_8 rfl ?_
    refine r_iload_n C dX5_letJoin_9 rfl ?_
    refine cvI_X5_65 C dX5_letJoin_10 (c_X5_hasPerson h t _) t.1 (t.k (by decide)) ⟨rfl, rfl⟩ rfl rfl rfl ?_
    refine r_if_ne (tgt := 18) C dX5_letJoin_13 rfl (fun c_13 => ?_) (fun c_13 => ?_)
    · skip
      obtain ⟨j, hj, rfl⟩ := fIn_of kn_3 (by decide) c_5
      have nc : (nI j).toNatClampNeg = j := nI_clamp (by omega)
      refine r_aload_n C dX5_letJoin_18 rfl ?_
      refine gf_X5_19 C dX5_letJoin_19 t.1 (t.k (by decide)) ?_
      refine r_iload_n C dX5_letJoin_22 rfl ?_
      refine r_aald (t0 := 5) C dX5_letJoin_23 t.2.2.1 rfl (t.k (by decide)) (j := j) rfl hj rfl rfl ?_
      refine r_iload_n C dX5_letJoin_24 rfl ?_
      refine cvI_X5_68 C dX5_letJoin_25 (c_X4_add _ (t.2.2.2.2.2.1 j hj) _) (t.2.2.2.2.2.1 j hj).1 (t.2.2.2.2.2.1 j hj).k ⟨rfl, rfl⟩ rfl rfl rfl ?_
      exact hE _ _ _ _ dX5_letJoin_28 (by first | with_reducible exact ⟨rfl, rfl⟩ | (simp (disch := omega) [pI, pV, rsJoin, c_5, c_13, nc, u2_o, u2_r, upd_o, upd_r]))
    · skip
      refine r_iconst C dX5_letJoin_16 ic_m1 ?_
      exact hE _ _ _ _ dX5_letJoin_17 (by first | with_reducible exact ⟨rfl, rfl⟩ | (simp (disch := omega) [pI, pV, rsJoin, c_5, c_13, u2_o, u2_r, upd_o, upd_r]))
set_option maxRecDepth 100000 in
set_option maxHeartbeats 4000000 in
theorem c_X5_letLeave {g : mG} {l : Launch} {tpl : mT} {b n : Nat} {v : mV} (h : Nat) (t : isT g tpl b n h) (x y : Int32) : CT g l tpl b n yX5_letLeave cX5_letLeave 3 (some .int) rm_X5_letLeave [.ref (b + (h + 1)), .int x, .int y] v (pI (rsLeave v h x y).1 (rsLeave v h x y).2) := by
  refine CT.introI [some (.ref (b + (h + 1))), some (.int x), some (.int y)] (own := RX5) (by decide +kernel) rfl rfl rfl rfl ?_
  intro p e s m args below meth c Q C hE
  refine r_aload_n C dX5_letLeave_0 rfl ?_
  refine r_iload_n C dX5_letLeave_1 rfl ?_
  refine cvI_X5_62 C dX5_letLeave_2 (c_X5_hasRegion h t _) t.1 (t.k (by decide)) ⟨rfl, rfl⟩ rfl rfl rfl ?_
  refine r_if_eq (tgt := 16) C dX5_letLeave_5 rfl (fun c_5 => ?_) (fun c_5 => ?_)
  · skip
    refine r_iconst C dX5_letLeave_16 ic_m1 ?_
    exact hE _ _ _ _ dX5_letLeave_17 (by first | with_reducible exact ⟨rfl, rfl⟩ | (simp (disch := omega) [pI, pV, rsLeave, c_5, u2_o, u2_r, upd_o, upd_r]))
  · skip
    refine r_aload_n C dX5_letLeave_8 rfl ?_
    refine r_iload_n C dX5_letLeave_9 rfl ?_
    refine cvI_X5_65 C dX5_letLeave_10 (c_X5_hasPerson h t _) t.1 (t.k (by decide)) ⟨rfl, rfl⟩ rfl rfl rfl ?_
    refine r_if_ne (tgt := 18) C dX5_letLeave_13 rfl (fun c_13 => ?_) (fun c_13 => ?_)
    · skip
      obtain ⟨j, hj, rfl⟩ := fIn_of kn_3 (by decide) c_5
      have nc : (nI j).toNatClampNeg = j := nI_clamp (by omega)
      refine r_aload_n C dX5_letLeave_18 rfl ?_
      refine gf_X5_19 C dX5_letLeave_19 t.1 (t.k (by decide)) ?_
      refine r_iload_n C dX5_letLeave_22 rfl ?_
      refine r_aald (t0 := 5) C dX5_letLeave_23 t.2.2.1 rfl (t.k (by decide)) (j := j) rfl hj rfl rfl ?_
      refine r_iload_n C dX5_letLeave_24 rfl ?_
      refine cvI_X5_72 C dX5_letLeave_25 (c_X4_remove _ (t.2.2.2.2.2.1 j hj) _) (t.2.2.2.2.2.1 j hj).1 (t.2.2.2.2.2.1 j hj).k ⟨rfl, rfl⟩ rfl rfl rfl ?_
      exact hE _ _ _ _ dX5_letLeave_28 (by first | with_reducible exact ⟨rfl, rfl⟩ | (simp (disch := omega) [pI, pV, rsLeave, c_5, c_13, nc, u2_o, u2_r, upd_o, upd_r]))
    · skip
      refine r_iconst C dX5_letLeave_16 ic_m1 ?_
      exact hE _ _ _ _ dX5_letLeave_17 (by first | with_reducible exact ⟨rfl, rfl⟩ | (simp (disch := omega) [pI, pV, rsLeave, c_5, c_13, u2_o, u2_r, upd_o, upd_r]))
set_option maxRecDepth 100000 in
set_option maxHeartbeats 4000000 in
theorem c_X5_putQuietHours {g : mG} {l : Launch} {tpl : mT} {b n : Nat} {v : mV} (h : Nat) (t : isT g tpl b n h) (x y z : Int32) : CT g l tpl b n yX5_putQuietHours cX5_putQuietHours 4 (some .int) rm_X5_putQuietHours [.ref (b + (h + 1)), .int x, .int y, .int z] v (pI (rsQuiet v h x y z).1 (rsQuiet v h x y z).2) := by
  refine CT.introI [some (.ref (b + (h + 1))), some (.int x), some (.int y), some (.int z)] (own := RX5) (by decide +kernel) rfl rfl rfl rfl ?_
  intro p e s m args below meth c Q C hE
  refine r_aload_n C dX5_putQuietHours_0 rfl ?_
  refine r_iload_n C dX5_putQuietHours_1 rfl ?_
  refine cvI_X5_65 C dX5_putQuietHours_2 (c_X5_hasPerson h t _) t.1 (t.k (by decide)) ⟨rfl, rfl⟩ rfl rfl rfl ?_
  refine r_if_eq (tgt := 22) C dX5_putQuietHours_5 rfl (fun c_5 => ?_) (fun c_5 => ?_)
  · skip
    refine r_iconst C dX5_putQuietHours_22 ic_m1 ?_
    exact hE _ _ _ _ dX5_putQuietHours_23 (by first | with_reducible exact ⟨rfl, rfl⟩ | (simp (disch := omega) [pI, pV, rsQuiet, c_5, u2_o, u2_r, upd_o, upd_r]))
  · skip
    refine r_iload_n C dX5_putQuietHours_8 rfl ?_
    refine cvI_X5_52 C dX5_putQuietHours_9 (c_X7_isHour _) ⟨rfl, rfl⟩ rfl rfl rfl ?_
    refine r_if_eq (tgt := 22) C dX5_putQuietHours_12 rfl (fun c_12 => ?_) (fun c_12 => ?_)
    · skip
      refine r_iconst C dX5_putQuietHours_22 ic_m1 ?_
      exact hE _ _ _ _ dX5_putQuietHours_23 (by first | with_reducible exact ⟨rfl, rfl⟩ | (simp (disch := omega) [pI, pV, rsQuiet, c_5, c_12, u2_o, u2_r, upd_o, upd_r]))
    · skip
      refine r_iload_n C dX5_putQuietHours_15 rfl ?_
      refine cvI_X5_52 C dX5_putQuietHours_16 (c_X7_isHour _) ⟨rfl, rfl⟩ rfl rfl rfl ?_
      refine r_if_ne (tgt := 24) C dX5_putQuietHours_19 rfl (fun c_19 => ?_) (fun c_19 => ?_)
      · skip
        obtain ⟨j, hj, rfl⟩ := fIn_of kn_8 (by decide) c_5
        have nc : (nI j).toNatClampNeg = j := nI_clamp (by omega)
        refine r_aload_n C dX5_putQuietHours_24 rfl ?_
        refine gf_X5_11 C dX5_putQuietHours_25 t.1 (t.k (by decide)) ?_
        refine r_iload_n C dX5_putQuietHours_28 rfl ?_
        refine r_aald (t0 := 4) C dX5_putQuietHours_29 t.2.1 rfl (t.k (by decide)) (j := j) rfl hj rfl rfl ?_
        refine gf_X5_75 C dX5_putQuietHours_30 (t.2.2.2.2.1 j hj).1 (t.2.2.2.2.1 j hj).k ?_
        refine r_iload_n C dX5_putQuietHours_33 rfl ?_
        refine r_iload_n C dX5_putQuietHours_34 rfl ?_
        refine cvV_X5_79 C dX5_putQuietHours_35 (c_X7_put _ (t.2.2.2.2.1 j hj).2.1 (t.2.2.2.2.1 j hj).2.2 _ _) (t.2.2.2.2.1 j hj).2.1 (t.2.2.2.2.1 j hj).2.2 ⟨rfl, rfl⟩ rfl rfl rfl ?_
        refine r_aload_n C dX5_putQuietHours_38 rfl ?_
        refine gf_X5_11 C dX5_putQuietHours_39 t.1 (t.k (by decide)) ?_
        refine r_iload_n C dX5_putQuietHours_42 rfl ?_
        refine r_aald (t0 := 4) C dX5_putQuietHours_43 t.2.1 rfl (t.k (by decide)) (j := j) rfl hj rfl rfl ?_
        refine gf_X5_75 C dX5_putQuietHours_44 (t.2.2.2.2.1 j hj).1 (t.2.2.2.2.1 j hj).k ?_
        refine cvI_X5_82 C dX5_putQuietHours_47 (c_X7_hours _ (t.2.2.2.2.1 j hj).2.1 (t.2.2.2.2.1 j hj).2.2) (t.2.2.2.2.1 j hj).2.1 (t.2.2.2.2.1 j hj).2.2 ⟨rfl, rfl⟩ rfl rfl rfl ?_
        exact hE _ _ _ _ dX5_putQuietHours_50 (by first | with_reducible exact ⟨rfl, rfl⟩ | (simp (disch := omega) [pI, pV, rsQuiet, c_5, c_12, c_19, nc, u2_o, u2_r, upd_o, upd_r]))
      · skip
        refine r_iconst C dX5_putQuietHours_22 ic_m1 ?_
        exact hE _ _ _ _ dX5_putQuietHours_23 (by first | with_reducible exact ⟨rfl, rfl⟩ | (simp (disch := omega) [pI, pV, rsQuiet, c_5, c_12, c_19, u2_o, u2_r, upd_o, upd_r]))
set_option maxRecDepth 100000 in
set_option maxHeartbeats 4000000 in
theorem c_X5_regionsOf {g : mG} {l : Launch} {tpl : mT} {b n : Nat} {v : mV} (h : Nat) (t : isT g tpl b n h) (x : Int32) : CT g l tpl b n yX5_regionsOf cX5_regionsOf 4 (some .int) rm_X5_regionsOf [.ref (b + (h + 1)), .int x] v (pI (rsRegsLp v h x 3 0 0) v) := by
  refine CT.introI [some (.ref (b + (h + 1))), some (.int x), none, none] (own := RX5) (by decide +kernel) rfl rfl rfl rfl ?_
  intro p e s m args below meth c Q C hE
  refine r_iconst C dX5_regionsOf_0 ic_0 ?_
  refine r_istore_n C dX5_regionsOf_1 rfl rfl ?_
  refine r_iconst C dX5_regionsOf_2 ic_0 ?_
  refine r_istore_n C dX5_regionsOf_3 rfl rfl ?_
  have loop_4 : ∀ (r : Nat) (i : Nat) (a : Int32), (i + r = 3) → (rsRegsLp v h x r i a = rsRegsLp v h x 3 0 0) → WM g p l e rm_X5_regionsOf s m args below meth c Q tpl b n v 4 [some (.ref (b + (h + 1))), some (.int x), some (.int a), some (.int (nI i))] [] := by
    intro r
    induction r with
    | zero =>
      intro i a hi hR
      refine r_iload_n C dX5_regionsOf_4 rfl ?_
      refine r_aload_n C dX5_regionsOf_5 rfl ?_
      refine gf_X5_46 C dX5_regionsOf_6 t.1 (t.k (by decide)) ?_
      refine r_icmp_ge (tgt := 47) C dX5_regionsOf_9 rfl (fun c_9 => ?_) (fun c_9 => ?_)
      · skip
        refine r_iload_n C dX5_regionsOf_47 rfl ?_
        exact hE _ _ _ _ dX5_regionsOf_48 (by rw [← hR]; simp (disch := omega) [pI, pV, rsRegsLp, c_9])
      · skip
        refine r_iload_n C dX5_regionsOf_12 rfl ?_
        refine r_aload_n C dX5_regionsOf_13 rfl ?_
        refine gf_X5_19 C dX5_regionsOf_14 t.1 (t.k (by decide)) ?_
        refine r_alen C dX5_regionsOf_17 t.2.2.1 rfl (t.k (by decide)) kn_3.symm ?_
        refine r_icmp_ge (tgt := 47) C dX5_regionsOf_18 rfl (fun c_18 => ?_) (fun c_18 => ?_)
        · skip
          refine r_iload_n C dX5_regionsOf_47 rfl ?_
          exact hE _ _ _ _ dX5_regionsOf_48 (by rw [← hR]; simp (disch := omega) [pI, pV, rsRegsLp, c_9, c_18])
        · exact absurd c_18 (nI_nlt (a := i) (b := 3) (by omega) (by omega))
    | succ r ih_4 =>
      intro i a hi hR
      refine r_iload_n C dX5_regionsOf_4 rfl ?_
      refine r_aload_n C dX5_regionsOf_5 rfl ?_
      refine gf_X5_46 C dX5_regionsOf_6 t.1 (t.k (by decide)) ?_
      refine r_icmp_ge (tgt := 47) C dX5_regionsOf_9 rfl (fun c_9 => ?_) (fun c_9 => ?_)
      · skip
        refine r_iload_n C dX5_regionsOf_47 rfl ?_
        exact hE _ _ _ _ dX5_regionsOf_48 (by rw [← hR]; simp (disch := omega) [pI, pV, rsRegsLp, c_9])
      · skip
        refine r_iload_n C dX5_regionsOf_12 rfl ?_
        refine r_aload_n C dX5_regionsOf_13 rfl ?_
        refine gf_X5_19 C dX5_regionsOf_14 t.1 (t.k (by decide)) ?_
        refine r_alen C dX5_regionsOf_17 t.2.2.1 rfl (t.k (by decide)) kn_3.symm ?_
        refine r_icmp_ge (tgt := 47) C dX5_regionsOf_18 rfl (fun c_18 => ?_) (fun c_18 => ?_)
        · exact absurd (nI_lt (a := i) (b := 3) (by omega) (by omega)) c_18
        · skip
          refine r_aload_n C dX5_regionsOf_21 rfl ?_
          refine gf_X5_19 C dX5_regionsOf_22 t.1 (t.k (by decide)) ?_
          refine r_iload_n C dX5_regionsOf_25 rfl ?_
          refine r_aald (t0 := 5) C dX5_regionsOf_26 t.2.2.1 rfl (t.k (by decide)) (j := i) rfl (by omega) rfl rfl ?_
          refine r_iload_n C dX5_regionsOf_27 rfl ?_
          refine cvI_X5_94 C dX5_regionsOf_28 (c_X4_placeOf _ (t.2.2.2.2.2.1 i (by omega)) _) (t.2.2.2.2.2.1 i (by omega)).1 (t.2.2.2.2.2.1 i (by omega)).k ⟨rfl, rfl⟩ rfl rfl rfl ?_
          refine r_iconst C dX5_regionsOf_31 ic_m1 ?_
          refine r_icmp_eq (tgt := 41) C dX5_regionsOf_32 rfl (fun c_32 => ?_) (fun c_32 => ?_)
          · skip
            refine r_iinc C dX5_regionsOf_41 rfl (nI_inc _) rfl ?_
            refine r_goto (tgt := 4) C dX5_regionsOf_44 rfl ?_
            exact ih_4 (i + 1) _ (by omega) (by rw [← hR]; simp [rsRegsLp, c_9, c_18, c_32])
          · skip
            refine r_iload_n C dX5_regionsOf_35 rfl ?_
            refine r_iconst C dX5_regionsOf_36 ic_1 ?_
            refine r_iload_n C dX5_regionsOf_37 rfl ?_
            refine r_ishl C dX5_regionsOf_38 ?_
            refine r_ior C dX5_regionsOf_39 ?_
            refine r_istore_n C dX5_regionsOf_40 rfl rfl ?_
            refine r_iinc C dX5_regionsOf_41 rfl (nI_inc _) rfl ?_
            refine r_goto (tgt := 4) C dX5_regionsOf_44 rfl ?_
            exact ih_4 (i + 1) _ (by omega) (by rw [← hR]; simp [rsRegsLp, c_9, c_18, c_32])
  exact loop_4 3 0 0 rfl rfl
set_option maxRecDepth 100000 in
set_option maxHeartbeats 4000000 in
theorem c_X5_standInsAt {g : mG} {l : Launch} {tpl : mT} {b n : Nat} {v : mV} (h : Nat) (t : isT g tpl b n h) (x : Int32) : CT g l tpl b n yX5_standInsAt cX5_standInsAt 4 (some .int) rm_X5_standInsAt [.ref (b + (h + 1)), .int x] v (pI (rsForceLp v h x 6 0 0) v) := by
  refine CT.introI [some (.ref (b + (h + 1))), some (.int x), none, none] (own := RX5) (by decide +kernel) rfl rfl rfl rfl ?_
  intro p e s m args below meth c Q C hE
  refine r_iconst C dX5_standInsAt_0 ic_0 ?_
  refine r_istore_n C dX5_standInsAt_1 rfl rfl ?_
  refine r_iconst C dX5_standInsAt_2 ic_0 ?_
  refine r_istore_n C dX5_standInsAt_3 rfl rfl ?_
  have loop_4 : ∀ (r : Nat) (i : Nat) (a : Int32), (i + r = 6) → (rsForceLp v h x r i a = rsForceLp v h x 6 0 0) → WM g p l e rm_X5_standInsAt s m args below meth c Q tpl b n v 4 [some (.ref (b + (h + 1))), some (.int x), some (.int a), some (.int (nI i))] [] := by
    intro r
    induction r with
    | zero =>
      intro i a hi hR
      refine r_iload_n C dX5_standInsAt_4 rfl ?_
      refine r_aload_n C dX5_standInsAt_5 rfl ?_
      refine gf_X5_49 C dX5_standInsAt_6 t.1 (t.k (by decide)) ?_
      refine r_icmp_ge (tgt := 43) C dX5_standInsAt_9 rfl (fun c_9 => ?_) (fun c_9 => ?_)
      · skip
        refine r_iload_n C dX5_standInsAt_43 rfl ?_
        exact hE _ _ _ _ dX5_standInsAt_44 (by rw [← hR]; simp (disch := omega) [pI, pV, rsForceLp, c_9])
      · skip
        refine r_iload_n C dX5_standInsAt_12 rfl ?_
        refine r_aload_n C dX5_standInsAt_13 rfl ?_
        refine gf_X5_25 C dX5_standInsAt_14 t.1 (t.k (by decide)) ?_
        refine r_alen C dX5_standInsAt_17 t.2.2.2.1 rfl (t.k (by decide)) kn_6.symm ?_
        refine r_icmp_ge (tgt := 43) C dX5_standInsAt_18 rfl (fun c_18 => ?_) (fun c_18 => ?_)
        · skip
          refine r_iload_n C dX5_standInsAt_43 rfl ?_
          exact hE _ _ _ _ dX5_standInsAt_44 (by rw [← hR]; simp (disch := omega) [pI, pV, rsForceLp, c_9, c_18])
        · exact absurd c_18 (nI_nlt (a := i) (b := 6) (by omega) (by omega))
    | succ r ih_4 =>
      intro i a hi hR
      refine r_iload_n C dX5_standInsAt_4 rfl ?_
      refine r_aload_n C dX5_standInsAt_5 rfl ?_
      refine gf_X5_49 C dX5_standInsAt_6 t.1 (t.k (by decide)) ?_
      refine r_icmp_ge (tgt := 43) C dX5_standInsAt_9 rfl (fun c_9 => ?_) (fun c_9 => ?_)
      · skip
        refine r_iload_n C dX5_standInsAt_43 rfl ?_
        exact hE _ _ _ _ dX5_standInsAt_44 (by rw [← hR]; simp (disch := omega) [pI, pV, rsForceLp, c_9])
      · skip
        refine r_iload_n C dX5_standInsAt_12 rfl ?_
        refine r_aload_n C dX5_standInsAt_13 rfl ?_
        refine gf_X5_25 C dX5_standInsAt_14 t.1 (t.k (by decide)) ?_
        refine r_alen C dX5_standInsAt_17 t.2.2.2.1 rfl (t.k (by decide)) kn_6.symm ?_
        refine r_icmp_ge (tgt := 43) C dX5_standInsAt_18 rfl (fun c_18 => ?_) (fun c_18 => ?_)
        · exact absurd (nI_lt (a := i) (b := 6) (by omega) (by omega)) c_18
        · skip
          refine r_aload_n C dX5_standInsAt_21 rfl ?_
          refine gf_X5_25 C dX5_standInsAt_22 t.1 (t.k (by decide)) ?_
          refine r_iload_n C dX5_standInsAt_25 rfl ?_
          refine r_aald (t0 := 6) C dX5_standInsAt_26 t.2.2.2.1 rfl (t.k (by decide)) (j := i) rfl (by omega) rfl rfl ?_
          refine r_iload_n C dX5_standInsAt_27 rfl ?_
          refine cvI_X5_97 C dX5_standInsAt_28 (c_X8_isInForce _ (t.2.2.2.2.2.2.1 i (by omega)) (t.k (by omega)) _) (t.2.2.2.2.2.2.1 i (by omega)) (t.k (by omega)) ⟨rfl, rfl⟩ rfl rfl rfl ?_
          refine r_if_eq (tgt := 37) C dX5_standInsAt_31 rfl (fun c_31 => ?_) (fun c_31 => ?_)
          · skip
            rw [ite0] at c_31
            refine r_iinc C dX5_standInsAt_37 rfl (nI_inc _) rfl ?_
            refine r_goto (tgt := 4) C dX5_standInsAt_40 rfl ?_
            exact ih_4 (i + 1) _ (by omega) (by rw [← hR]; simp [rsForceLp, c_9, c_18, c_31])
          · skip
            rw [ite0, Classical.not_not] at c_31
            refine r_iinc C dX5_standInsAt_34 rfl (iinc_1 _) rfl ?_
            refine r_iinc C dX5_standInsAt_37 rfl (nI_inc _) rfl ?_
            refine r_goto (tgt := 4) C dX5_standInsAt_40 rfl ?_
            exact ih_4 (i + 1) _ (by omega) (by rw [← hR]; simp [rsForceLp, c_9, c_18, c_31])
  exact loop_4 6 0 0 rfl rfl
set_option maxRecDepth 100000 in
set_option maxHeartbeats 4000000 in
theorem c_X5_regionAt {g : mG} {l : Launch} {tpl : mT} {b n : Nat} {v : mV} (h : Nat) (t : isT g tpl b n h) (x : Int32) : CT g l tpl b n yX5_regionAt cX5_regionAt 4 (some .int) rm_X5_regionAt [.ref (b + (h + 1)), .int x] v (pI (rsRegionAt v h x) v) := by
  refine CT.introI [some (.ref (b + (h + 1))), some (.int x), none, none] (own := RX5) (by decide +kernel) rfl rfl rfl rfl ?_
  intro p e s m args below meth c Q C hE
  refine r_iload_n C dX5_regionAt_0 rfl ?_
  refine cvI_X5_113 C dX5_regionAt_1 (c_X10_hourOfDay _) ⟨rfl, rfl⟩ rfl rfl rfl ?_
  refine r_istore_n C dX5_regionAt_4 rfl rfl ?_
  refine r_iconst C dX5_regionAt_5 ic_0 ?_
  refine r_istore_n C dX5_regionAt_6 rfl rfl ?_
  have loop_7 : ∀ (r : Nat) (i : Nat), (i + r = 3) → (rsRegionLp v h (fHour x) r i = rsRegionLp v h (fHour x) 3 0) → WM g p l e rm_X5_regionAt s m args below meth c Q tpl b n v 7 [some (.ref (b + (h + 1))), some (.int x), some (.int (fHour x)), some (.int (nI i))] [] := by
    intro r
    induction r with
    | zero =>
      intro i hi hR
      refine r_iload_n C dX5_regionAt_7 rfl ?_
      refine r_aload_n C dX5_regionAt_8 rfl ?_
      refine gf_X5_46 C dX5_regionAt_9 t.1 (t.k (by decide)) ?_
      refine r_icmp_ge (tgt := 45) C dX5_regionAt_12 rfl (fun c_12 => ?_) (fun c_12 => ?_)
      · skip
        refine r_iconst C dX5_regionAt_45 ic_m1 ?_
        exact hE _ _ _ _ dX5_regionAt_46 (by rw [rsRegionAt, ← hR]; simp (disch := omega) [pI, rsRegionLp, c_12])
      · skip
        refine r_iload_n C dX5_regionAt_15 rfl ?_
        refine r_aload_n C dX5_regionAt_16 rfl ?_
        refine gf_X5_19 C dX5_regionAt_17 t.1 (t.k (by decide)) ?_
        refine r_alen C dX5_regionAt_20 t.2.2.1 rfl (t.k (by decide)) kn_3.symm ?_
        refine r_icmp_ge (tgt := 45) C dX5_regionAt_21 rfl (fun c_21 => ?_) (fun c_21 => ?_)
        · skip
          refine r_iconst C dX5_regionAt_45 ic_m1 ?_
          exact hE _ _ _ _ dX5_regionAt_46 (by rw [rsRegionAt, ← hR]; simp (disch := omega) [pI, rsRegionLp, c_12, c_21])
        · exact absurd c_21 (nI_nlt (a := i) (b := 3) (by omega) (by omega))
    | succ r ih_7 =>
      intro i hi hR
      refine r_iload_n C dX5_regionAt_7 rfl ?_
      refine r_aload_n C dX5_regionAt_8 rfl ?_
      refine gf_X5_46 C dX5_regionAt_9 t.1 (t.k (by decide)) ?_
      refine r_icmp_ge (tgt := 45) C dX5_regionAt_12 rfl (fun c_12 => ?_) (fun c_12 => ?_)
      · skip
        refine r_iconst C dX5_regionAt_45 ic_m1 ?_
        exact hE _ _ _ _ dX5_regionAt_46 (by rw [rsRegionAt, ← hR]; simp (disch := omega) [pI, rsRegionLp, c_12])
      · skip
        refine r_iload_n C dX5_regionAt_15 rfl ?_
        refine r_aload_n C dX5_regionAt_16 rfl ?_
        refine gf_X5_19 C dX5_regionAt_17 t.1 (t.k (by decide)) ?_
        refine r_alen C dX5_regionAt_20 t.2.2.1 rfl (t.k (by decide)) kn_3.symm ?_
        refine r_icmp_ge (tgt := 45) C dX5_regionAt_21 rfl (fun c_21 => ?_) (fun c_21 => ?_)
        · exact absurd (nI_lt (a := i) (b := 3) (by omega) (by omega)) c_21
        · skip
          refine r_aload_n C dX5_regionAt_24 rfl ?_
          refine gf_X5_19 C dX5_regionAt_25 t.1 (t.k (by decide)) ?_
          refine r_iload_n C dX5_regionAt_28 rfl ?_
          refine r_aald (t0 := 5) C dX5_regionAt_29 t.2.2.1 rfl (t.k (by decide)) (j := i) rfl (by omega) rfl rfl ?_
          refine r_iload_n C dX5_regionAt_30 rfl ?_
          refine cvI_X5_116 C dX5_regionAt_31 (c_X4_covers _ (t.2.2.2.2.2.1 i (by omega)) _) (t.2.2.2.2.2.1 i (by omega)).1 (t.2.2.2.2.2.1 i (by omega)).k ⟨rfl, rfl⟩ rfl rfl rfl ?_
          refine r_if_eq (tgt := 39) C dX5_regionAt_34 rfl (fun c_34 => ?_) (fun c_34 => ?_)
          · skip
            refine r_iinc C dX5_regionAt_39 rfl (nI_inc _) rfl ?_
            refine r_goto (tgt := 7) C dX5_regionAt_42 rfl ?_
            exact ih_7 (i + 1) (by omega) (by rw [← hR]; simp [rsRegionLp, c_12, c_21, c_34])
          · skip
            refine r_iload_n C dX5_regionAt_37 rfl ?_
            exact hE _ _ _ _ dX5_regionAt_38 (by rw [rsRegionAt, ← hR]; simp (disch := omega) [pI, rsRegionLp, c_12, c_21, c_34])
  exact loop_7 3 0 rfl rfl
