/-! ===== the class's leaves: what each answers ===== -/
def fHas (f t h : Int32) : Int32 := if t < f then (if h < f then (if h < t then 1 else 0) else 1) else (if h < f then 0 else if h < t then 1 else 0)
def fIsHour (x : Int32) : Int32 := if x < 0 then 0 else if x < 24 then 1 else 0
def fSleeps (ex f t x y z : Int32) : Int32 := if y = 0 then (if (ex >>> (x &&& 31)) &&& 1 = 0 then (if fHas f t z = 0 then 0 else 1) else 0) else 0
def fCovers (sz f t x : Int32) : Int32 := if 0 < sz then (if fHas f t x = 0 then 0 else 1) else 0
def fHour (x : Int32) : Int32 := x / 60 - x / 60 / 24 * 24
theorem ite_01 (P : Prop) [Decidable P] : (if P then (1 : Int32) else 0) = 0 ∨ (if P then (1 : Int32) else 0) = 1 := by split <;> simp
theorem fHas_01 (f t h : Int32) : fHas f t h = 0 ∨ fHas f t h = 1 := by
  unfold fHas
  repeat' split
  all_goals simp
theorem fIsHour_01 (x : Int32) : fIsHour x = 0 ∨ fIsHour x = 1 := by
  unfold fIsHour
  repeat' split
  all_goals simp
theorem fSleeps_01 (a b c x y z : Int32) : fSleeps a b c x y z = 0 ∨ fSleeps a b c x y z = 1 := by
  unfold fSleeps
  repeat' split
  all_goals simp
theorem fCovers_01 (a b c x : Int32) : fCovers a b c x = 0 ∨ fCovers a b c x = 1 := by
  unfold fCovers
  repeat' split
  all_goals simp

set_option maxRecDepth 100000 in
set_option maxHeartbeats 4000000 in
theorem c_X7_put {g : mG} {l : Launch} {tpl : mT} {b n : Nat} (k : Nat) (ht : tpl k = tSpan) (hk : k < n) (x y : Int32) {v : mV} : CT g l tpl b n yX7_put cX7_put 3 none rm_X7_put [.ref (b + k), .int x, .int y] v (pV (u2 (u2 v k 0 x) k 1 y)) := by
  refine CT.introV [some (.ref (b + k)), some (.int x), some (.int y)] (own := RX7) (by decide +kernel) rfl rfl rfl rfl ?_
  intro p e s m args below meth c Q C hE
  refine r_aload_n C dX7_put_0 rfl ?_
  refine r_iload_n C dX7_put_1 rfl ?_
  refine pf_X7_9 C dX7_put_2 ht hk ?_
  refine r_aload_n C dX7_put_5 rfl ?_
  refine r_iload_n C dX7_put_6 rfl ?_
  refine pf_X7_15 C dX7_put_7 ht hk ?_
  exact hE _ _ _ dX7_put_10 (by first | exact ⟨rfl, rfl⟩ | simp [pV])
set_option maxRecDepth 100000 in
set_option maxHeartbeats 4000000 in
theorem c_X7_has {g : mG} {l : Launch} {tpl : mT} {b n : Nat} (k : Nat) (ht : tpl k = tSpan) (hk : k < n) (x : Int32) {v : mV} : CT g l tpl b n yX7_has cX7_has 2 (some .boolean) rm_X7_has [.ref (b + k), .int x] v (pI (fHas (v k 0) (v k 1) x) v) := by
  refine CT.introZ [some (.ref (b + k)), some (.int x)] (own := RX7) (by decide +kernel) rfl rfl rfl rfl ?_
  intro p e s m args below meth c Q C hE
  refine r_aload_n C dX7_has_0 rfl ?_
  refine gf_X7_9 C dX7_has_1 ht hk ?_
  refine r_aload_n C dX7_has_4 rfl ?_
  refine gf_X7_15 C dX7_has_5 ht hk ?_
  refine r_icmp_gt (tgt := 33) C dX7_has_8 rfl (fun c_8 => ?_) (fun c_8 => ?_)
  · skip
    refine r_iload_n C dX7_has_33 rfl ?_
    refine r_aload_n C dX7_has_34 rfl ?_
    refine gf_X7_9 C dX7_has_35 ht hk ?_
    refine r_icmp_ge (tgt := 49) C dX7_has_38 rfl (fun c_38 => ?_) (fun c_38 => ?_)
    · skip
      refine r_iconst C dX7_has_49 ic_1 ?_
      refine r_goto (tgt := 54) C dX7_has_50 rfl ?_
      exact hE _ _ _ _ (nar_b (Or.inr rfl)) dX7_has_54 (by first | exact ⟨rfl, rfl⟩ | simp [pI, fHas, c_8, c_38])
    · skip
      refine r_iload_n C dX7_has_41 rfl ?_
      refine r_aload_n C dX7_has_42 rfl ?_
      refine gf_X7_15 C dX7_has_43 ht hk ?_
      refine r_icmp_ge (tgt := 53) C dX7_has_46 rfl (fun c_46 => ?_) (fun c_46 => ?_)
      · skip
        refine r_iconst C dX7_has_53 ic_0 ?_
        exact hE _ _ _ _ (nar_b (Or.inl rfl)) dX7_has_54 (by first | exact ⟨rfl, rfl⟩ | simp [pI, fHas, c_8, c_38, c_46])
      · skip
        refine r_iconst C dX7_has_49 ic_1 ?_
        refine r_goto (tgt := 54) C dX7_has_50 rfl ?_
        exact hE _ _ _ _ (nar_b (Or.inr rfl)) dX7_has_54 (by first | exact ⟨rfl, rfl⟩ | simp [pI, fHas, c_8, c_38, c_46])
  · skip
    refine r_iload_n C dX7_has_11 rfl ?_
    refine r_aload_n C dX7_has_12 rfl ?_
    refine gf_X7_9 C dX7_has_13 ht hk ?_
    refine r_icmp_lt (tgt := 31) C dX7_has_16 rfl (fun c_16 => ?_) (fun c_16 => ?_)
    · skip
      refine r_iconst C dX7_has_31 ic_0 ?_
      exact hE _ _ _ _ (nar_b (Or.inl rfl)) dX7_has_32 (by first | exact ⟨rfl, rfl⟩ | simp [pI, fHas, c_8, c_16])
    · skip
      refine r_iload_n C dX7_has_19 rfl ?_
      refine r_aload_n C dX7_has_20 rfl ?_
      refine gf_X7_15 C dX7_has_21 ht hk ?_
      refine r_icmp_ge (tgt := 31) C dX7_has_24 rfl (fun c_24 => ?_) (fun c_24 => ?_)
      · skip
        refine r_iconst C dX7_has_31 ic_0 ?_
        exact hE _ _ _ _ (nar_b (Or.inl rfl)) dX7_has_32 (by first | exact ⟨rfl, rfl⟩ | simp [pI, fHas, c_8, c_16, c_24])
      · skip
        refine r_iconst C dX7_has_27 ic_1 ?_
        refine r_goto (tgt := 32) C dX7_has_28 rfl ?_
        exact hE _ _ _ _ (nar_b (Or.inr rfl)) dX7_has_32 (by first | exact ⟨rfl, rfl⟩ | simp [pI, fHas, c_8, c_16, c_24])
set_option maxRecDepth 100000 in
set_option maxHeartbeats 4000000 in
theorem c_X7_hours {g : mG} {l : Launch} {tpl : mT} {b n : Nat} (k : Nat) (ht : tpl k = tSpan) (hk : k < n) {v : mV} : CT g l tpl b n yX7_hours cX7_hours 1 (some .int) rm_X7_hours [.ref (b + k)] v (pI (if v k 1 < v k 0 then v k 1 - v k 0 + 24 else v k 1 - v k 0) v) := by
  refine CT.introI [some (.ref (b + k))] (own := RX7) (by decide +kernel) rfl rfl rfl rfl ?_
  intro p e s m args below meth c Q C hE
  refine r_aload_n C dX7_hours_0 rfl ?_
  refine gf_X7_9 C dX7_hours_1 ht hk ?_
  refine r_aload_n C dX7_hours_4 rfl ?_
  refine gf_X7_15 C dX7_hours_5 ht hk ?_
  refine r_icmp_gt (tgt := 23) C dX7_hours_8 rfl (fun c_8 => ?_) (fun c_8 => ?_)
  · skip
    refine r_aload_n C dX7_hours_23 rfl ?_
    refine gf_X7_15 C dX7_hours_24 ht hk ?_
    refine r_aload_n C dX7_hours_27 rfl ?_
    refine gf_X7_9 C dX7_hours_28 ht hk ?_
    refine r_isub C dX7_hours_31 ?_
    refine r_bipush C dX7_hours_32 bp_24 ?_
    refine r_iadd C dX7_hours_34 ?_
    exact hE _ _ _ _ dX7_hours_35 (by first | exact ⟨rfl, rfl⟩ | simp [pI, c_8])
  · skip
    refine r_aload_n C dX7_hours_11 rfl ?_
    refine gf_X7_15 C dX7_hours_12 ht hk ?_
    refine r_aload_n C dX7_hours_15 rfl ?_
    refine gf_X7_9 C dX7_hours_16 ht hk ?_
    refine r_isub C dX7_hours_19 ?_
    refine r_goto (tgt := 35) C dX7_hours_20 rfl ?_
    exact hE _ _ _ _ dX7_hours_35 (by first | exact ⟨rfl, rfl⟩ | simp [pI, c_8])
set_option maxRecDepth 100000 in
set_option maxHeartbeats 4000000 in
theorem c_X7_isHour {g : mG} {l : Launch} {tpl : mT} {b n : Nat} (x : Int32) {v : mV} : CT g l tpl b n yX7_isHour cX7_isHour 1 (some .boolean) rm_X7_isHour [.int x] v (pI (fIsHour x) v) := by
  refine CT.introZ [some (.int x)] (own := RX7) (by decide +kernel) rfl rfl rfl rfl ?_
  intro p e s m args below meth c Q C hE
  refine r_iload_n C dX7_isHour_0 rfl ?_
  refine r_if_lt (tgt := 14) C dX7_isHour_1 rfl (fun c_1 => ?_) (fun c_1 => ?_)
  · skip
    refine r_iconst C dX7_isHour_14 ic_0 ?_
    exact hE _ _ _ _ (nar_b (Or.inl rfl)) dX7_isHour_15 (by first | exact ⟨rfl, rfl⟩ | simp [pI, fIsHour, c_1])
  · skip
    refine r_iload_n C dX7_isHour_4 rfl ?_
    refine r_bipush C dX7_isHour_5 bp_24 ?_
    refine r_icmp_ge (tgt := 14) C dX7_isHour_7 rfl (fun c_7 => ?_) (fun c_7 => ?_)
    · skip
      refine r_iconst C dX7_isHour_14 ic_0 ?_
      exact hE _ _ _ _ (nar_b (Or.inl rfl)) dX7_isHour_15 (by first | exact ⟨rfl, rfl⟩ | simp [pI, fIsHour, c_1, c_7])
    · skip
      refine r_iconst C dX7_isHour_10 ic_1 ?_
      refine r_goto (tgt := 15) C dX7_isHour_11 rfl ?_
      exact hE _ _ _ _ (nar_b (Or.inr rfl)) dX7_isHour_15 (by first | exact ⟨rfl, rfl⟩ | simp [pI, fIsHour, c_1, c_7])
set_option maxRecDepth 100000 in
set_option maxHeartbeats 4000000 in
theorem c_X3_sleepsThrough {g : mG} {l : Launch} {tpl : mT} {b n : Nat} (k : Nat) (hp : isP tpl b n k) (x y z : Int32) {v : mV} : CT g l tpl b n yX3_sleepsThrough cX3_sleepsThrough 4 (some .boolean) rm_X3_sleepsThrough [.ref (b + k), .int x, .int y, .int z] v (pI (fSleeps (v k 1) (v (k + 1) 0) (v (k + 1) 1) x y z) v) := by
  refine CT.introZ [some (.ref (b + k)), some (.int x), some (.int y), some (.int z)] (own := RX3) (by decide +kernel) rfl rfl rfl rfl ?_
  intro p e s m args below meth c Q C hE
  refine r_iload_n C dX3_sleepsThrough_0 rfl ?_
  refine r_if_ne (tgt := 30) C dX3_sleepsThrough_1 rfl (fun c_1 => ?_) (fun c_1 => ?_)
  · skip
    refine r_iconst C dX3_sleepsThrough_30 ic_0 ?_
    exact hE _ _ _ _ (nar_b (Or.inl rfl)) dX3_sleepsThrough_31 (by first | exact ⟨rfl, rfl⟩ | simp [pI, fSleeps, c_1])
  · skip
    refine r_aload_n C dX3_sleepsThrough_4 rfl ?_
    refine gf_X3_27 C dX3_sleepsThrough_5 hp.1 hp.k ?_
    refine r_iload_n C dX3_sleepsThrough_8 rfl ?_
    refine r_ishr C dX3_sleepsThrough_9 ?_
    refine r_iconst C dX3_sleepsThrough_10 ic_1 ?_
    refine r_iand C dX3_sleepsThrough_11 ?_
    refine r_if_ne (tgt := 30) C dX3_sleepsThrough_12 rfl (fun c_12 => ?_) (fun c_12 => ?_)
    · skip
      refine r_iconst C dX3_sleepsThrough_30 ic_0 ?_
      exact hE _ _ _ _ (nar_b (Or.inl rfl)) dX3_sleepsThrough_31 (by first | exact ⟨rfl, rfl⟩ | simp [pI, fSleeps, c_1, c_12])
    · skip
      refine r_aload_n C dX3_sleepsThrough_15 rfl ?_
      refine gf_X3_10 C dX3_sleepsThrough_16 hp.1 hp.k ?_
      refine r_iload_n C dX3_sleepsThrough_19 rfl ?_
      refine cvI_X3_36 C dX3_sleepsThrough_20 (c_X7_has _ hp.2.1 hp.2.2 _) hp.2.1 hp.2.2 ⟨rfl, rfl⟩ rfl rfl rfl ?_
      refine r_if_eq (tgt := 30) C dX3_sleepsThrough_23 rfl (fun c_23 => ?_) (fun c_23 => ?_)
      · skip
        refine r_iconst C dX3_sleepsThrough_30 ic_0 ?_
        exact hE _ _ _ _ (nar_b (Or.inl rfl)) dX3_sleepsThrough_31 (by first | exact ⟨rfl, rfl⟩ | simp [pI, fSleeps, c_1, c_12, c_23])
      · skip
        refine r_iconst C dX3_sleepsThrough_26 ic_1 ?_
        refine r_goto (tgt := 31) C dX3_sleepsThrough_27 rfl ?_
        exact hE _ _ _ _ (nar_b (Or.inr rfl)) dX3_sleepsThrough_31 (by first | exact ⟨rfl, rfl⟩ | simp [pI, fSleeps, c_1, c_12, c_23])
set_option maxRecDepth 100000 in
set_option maxHeartbeats 4000000 in
theorem c_X4_put {g : mG} {l : Launch} {tpl : mT} {b n : Nat} (k : Nat) (hr : isR g tpl b n k) (x y z : Int32) {v : mV} : CT g l tpl b n yX4_put cX4_put 4 none rm_X4_put [.ref (b + k), .int x, .int y, .int z] v (pV (u2 (u2 (u2 v (k + 1) 0 x) (k + 1) 1 y) k 2 z)) := by
  refine CT.introV [some (.ref (b + k)), some (.int x), some (.int y), some (.int z)] (own := RX4) (by decide +kernel) rfl rfl rfl rfl ?_
  intro p e s m args below meth c Q C hE
  refine r_aload_n C dX4_put_0 rfl ?_
  refine gf_X4_12 C dX4_put_1 hr.1 hr.k ?_
  refine r_iload_n C dX4_put_4 rfl ?_
  refine r_iload_n C dX4_put_5 rfl ?_
  refine cvV_X4_29 C dX4_put_6 (c_X7_put _ hr.2.1 hr.k1 _ _) hr.2.1 hr.k1 ⟨rfl, rfl⟩ rfl rfl rfl ?_
  refine r_aload_n C dX4_put_9 rfl ?_
  refine r_iload_n C dX4_put_10 rfl ?_
  refine pf_X4_39 C dX4_put_11 hr.1 hr.k ?_
  exact hE _ _ _ dX4_put_14 (by first | exact ⟨rfl, rfl⟩ | simp [pV])
set_option maxRecDepth 100000 in
set_option maxHeartbeats 4000000 in
theorem c_X4_covers {g : mG} {l : Launch} {tpl : mT} {b n : Nat} (k : Nat) (hr : isR g tpl b n k) (x : Int32) {v : mV} : CT g l tpl b n yX4_covers cX4_covers 2 (some .boolean) rm_X4_covers [.ref (b + k), .int x] v (pI (fCovers (v k 3) (v (k + 1) 0) (v (k + 1) 1) x) v) := by
  refine CT.introZ [some (.ref (b + k)), some (.int x)] (own := RX4) (by decide +kernel) rfl rfl rfl rfl ?_
  intro p e s m args below meth c Q C hE
  refine r_aload_n C dX4_covers_0 rfl ?_
  refine gf_X4_42 C dX4_covers_1 hr.1 hr.k ?_
  refine r_if_le (tgt := 22) C dX4_covers_4 rfl (fun c_4 => ?_) (fun c_4 => ?_)
  · skip
    refine r_iconst C dX4_covers_22 ic_0 ?_
    exact hE _ _ _ _ (nar_b (Or.inl rfl)) dX4_covers_23 (by first | exact ⟨rfl, rfl⟩ | simp [pI, fCovers, c_4])
  · skip
    refine r_aload_n C dX4_covers_7 rfl ?_
    refine gf_X4_12 C dX4_covers_8 hr.1 hr.k ?_
    refine r_iload_n C dX4_covers_11 rfl ?_
    refine cvI_X4_45 C dX4_covers_12 (c_X7_has _ hr.2.1 hr.k1 _) hr.2.1 hr.k1 ⟨rfl, rfl⟩ rfl rfl rfl ?_
    refine r_if_eq (tgt := 22) C dX4_covers_15 rfl (fun c_15 => ?_) (fun c_15 => ?_)
    · skip
      refine r_iconst C dX4_covers_22 ic_0 ?_
      exact hE _ _ _ _ (nar_b (Or.inl rfl)) dX4_covers_23 (by first | exact ⟨rfl, rfl⟩ | simp [pI, fCovers, c_4, c_15])
    · skip
      refine r_iconst C dX4_covers_18 ic_1 ?_
      refine r_goto (tgt := 23) C dX4_covers_19 rfl ?_
      exact hE _ _ _ _ (nar_b (Or.inr rfl)) dX4_covers_23 (by first | exact ⟨rfl, rfl⟩ | simp [pI, fCovers, c_4, c_15])
set_option maxRecDepth 100000 in
set_option maxHeartbeats 4000000 in
theorem c_X8_isInForce {g : mG} {l : Launch} {tpl : mT} {b n : Nat} (k : Nat) (ht : tpl k = tStand) (hk : k < n) (x : Int32) {v : mV} : CT g l tpl b n yX8_isInForce cX8_isInForce 2 (some .boolean) rm_X8_isInForce [.ref (b + k), .int x] v (pI (if x < v k 2 then 1 else 0) v) := by
  refine CT.introZ [some (.ref (b + k)), some (.int x)] (own := RX8) (by decide +kernel) rfl rfl rfl rfl ?_
  intro p e s m args below meth c Q C hE
  refine r_iload_n C dX8_isInForce_0 rfl ?_
  refine r_aload_n C dX8_isInForce_1 rfl ?_
  refine gf_X8_16 C dX8_isInForce_2 ht hk ?_
  refine r_icmp_ge (tgt := 12) C dX8_isInForce_5 rfl (fun c_5 => ?_) (fun c_5 => ?_)
  · skip
    refine r_iconst C dX8_isInForce_12 ic_0 ?_
    exact hE _ _ _ _ (nar_b (Or.inl rfl)) dX8_isInForce_13 (by first | exact ⟨rfl, rfl⟩ | simp [pI, c_5])
  · skip
    refine r_iconst C dX8_isInForce_8 ic_1 ?_
    refine r_goto (tgt := 13) C dX8_isInForce_9 rfl ?_
    exact hE _ _ _ _ (nar_b (Or.inr rfl)) dX8_isInForce_13 (by first | exact ⟨rfl, rfl⟩ | simp [pI, c_5])
set_option maxRecDepth 100000 in
set_option maxHeartbeats 4000000 in
theorem c_X10_hourOfDay {g : mG} {l : Launch} {tpl : mT} {b n : Nat} (x : Int32) {v : mV} : CT g l tpl b n yX10_hourOfDay cX10_hourOfDay 1 (some .int) rm_X10_hourOfDay [.int x] v (pI (fHour x) v) := by
  refine CT.introI [some (.int x)] (own := RX10) (by decide +kernel) rfl rfl rfl rfl ?_
  intro p e s m args below meth c Q C hE
  refine r_iload_n C dX10_hourOfDay_0 rfl ?_
  refine r_bipush C dX10_hourOfDay_1 bp_60 ?_
  refine r_idiv C dX10_hourOfDay_3 (by decide) ?_
  refine r_bipush C dX10_hourOfDay_4 bp_24 ?_
  refine r_irem C dX10_hourOfDay_6 (by decide) ?_
  exact hE _ _ _ _ dX10_hourOfDay_7 (by first | exact ⟨rfl, rfl⟩ | simp [pI, fHour])
