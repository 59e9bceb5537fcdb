theorem ch_i2c : ∀ j : Nat, j < 127 → ((nI j).toUInt32 % 65536).toInt32 = nI j := by decide +kernel
theorem ch_nar : ∀ j : Nat, j < 127 → vp_nar .char (nI j) = nI j := by decide +kernel
set_option maxRecDepth 100000 in
set_option maxHeartbeats 4000000 in
theorem c_X10_settled {g : mG} {l : Launch} {tpl : mT} {b n : Nat} {v : mV} (hz : isZ g tpl b n) (hπ : hyPi v 93) (x : Int32) : CT g l tpl b n yX10_settled cX10_settled 2 (some .int) rm_X10_settled [.ref (b + 0), .int x] v (pI x (if x < 0 then v else hyKeep v 93)) := by
  refine CT.introI [some (.ref (b + 0)), some (.int x)] (own := RX10) (by decide +kernel) rfl rfl rfl rfl ?_
  intro p e s m args below meth c Q C hE
  refine r_iload_n C dX10_settled_0 rfl ?_
  refine r_if_lt (tgt := 11) C dX10_settled_1 rfl (fun c_1 => ?_) (fun c_1 => ?_)
  · skip
    refine r_iload_n C dX10_settled_11 rfl ?_
    exact hE _ _ _ _ dX10_settled_12 (by simp [pI, c_1])
  · skip
    refine r_aload_n C dX10_settled_4 rfl ?_
    refine gf_X10_22 C dX10_settled_5 hz.1 hz.2.2.2.2.2 ?_
    refine cvV_X10_268 C dX10_settled_8 (c_X0_keepPrepared 93 hz.2.2.2.1 hπ) hz.2.2.2.1.1 hz.2.2.2.1.k0 ⟨rfl, rfl⟩ rfl rfl rfl ?_
    refine r_iload_n C dX10_settled_11 rfl ?_
    exact hE _ _ _ _ dX10_settled_12 (by simp [pI, c_1])
set_option maxRecDepth 100000 in
set_option maxHeartbeats 4000000 in
theorem c_X10_person {g : mG} {l : Launch} {tpl : mT} {b n : Nat} {v : mV} (hz : isZ g tpl b n) (hc : CI v) : CT g l tpl b n yX10_person cX10_person 1 (some .int) rm_X10_person [.ref (b + 0)] v (pI (zSet (rsAddPerson (zPrep v) 1)).1 (zSet (rsAddPerson (zPrep v) 1)).2) := by
  refine CT.introI [some (.ref (b + 0))] (own := RX10) (by decide +kernel) rfl rfl rfl rfl ?_
  intro p e s m args below meth c Q C hE
  refine r_aload_n C dX10_person_0 rfl ?_
  refine gf_X10_22 C dX10_person_1 hz.1 hz.2.2.2.2.2 ?_
  refine r_aload_n C dX10_person_4 rfl ?_
  refine gf_X10_10 C dX10_person_5 hz.1 hz.2.2.2.2.2 ?_
  refine cvV_X10_33 C dX10_person_8 (c_X0_prepare 93 hz.2.2.2.1 1 hz.2.1 (by omega) hc.2.1 hc.2.2.1) hz.2.2.2.1.1 hz.2.2.2.1.k0 ⟨rfl, rfl⟩ rfl rfl rfl ?_
  rw [show hyPrep v 93 1 = zPrep v from rfl]
  refine r_aload_n C dX10_person_11 rfl ?_
  refine r_aload_n C dX10_person_12 rfl ?_
  refine gf_X10_10 C dX10_person_13 hz.1 hz.2.2.2.2.2 ?_
  refine gf_X10_37 C dX10_person_16 hz.2.1.1 hz.2.1.k0 ?_
  refine cvI_X10_41 C dX10_person_19 (c_X5_addPerson 1 hz.2.1.2.1) hz.2.1.2.1.1 (hz.2.1.2.1.k (by decide)) ⟨rfl, rfl⟩ rfl rfl rfl ?_
  refine cvI_X10_47 C dX10_person_22 (c_X10_settled hz (hyPi_of (by rw [rsAddPerson_out (by omega), zPrep_out hc (by omega)]) hc.2.1) _) hz.1 hz.2.2.2.2.2 ⟨rfl, rfl⟩ rfl rfl rfl ?_
  exact hE _ _ _ _ dX10_person_25 (by unfold zSet; constructor <;> split <;> rfl)
set_option maxRecDepth 100000 in
set_option maxHeartbeats 4000000 in
theorem c_X10_region {g : mG} {l : Launch} {tpl : mT} {b n : Nat} {v : mV} (hz : isZ g tpl b n) (hc : CI v) (x y z : Int32) : CT g l tpl b n yX10_region cX10_region 4 (some .int) rm_X10_region [.ref (b + 0), .int x, .int y, .int z] v (pI (zSet (rsAddRegion (zPrep v) 1 x y z)).1 (zSet (rsAddRegion (zPrep v) 1 x y z)).2) := by
  refine CT.introI [some (.ref (b + 0)), some (.int x), some (.int y), some (.int z)] (own := RX10) (by decide +kernel) rfl rfl rfl rfl ?_
  intro p e s m args below meth c Q C hE
  refine r_aload_n C dX10_region_0 rfl ?_
  refine gf_X10_22 C dX10_region_1 hz.1 hz.2.2.2.2.2 ?_
  refine r_aload_n C dX10_region_4 rfl ?_
  refine gf_X10_10 C dX10_region_5 hz.1 hz.2.2.2.2.2 ?_
  refine cvV_X10_33 C dX10_region_8 (c_X0_prepare 93 hz.2.2.2.1 1 hz.2.1 (by omega) hc.2.1 hc.2.2.1) hz.2.2.2.1.1 hz.2.2.2.1.k0 ⟨rfl, rfl⟩ rfl rfl rfl ?_
  rw [show hyPrep v 93 1 = zPrep v from rfl]
  refine r_aload_n C dX10_region_11 rfl ?_
  refine r_aload_n C dX10_region_12 rfl ?_
  refine gf_X10_10 C dX10_region_13 hz.1 hz.2.2.2.2.2 ?_
  refine gf_X10_37 C dX10_region_16 hz.2.1.1 hz.2.1.k0 ?_
  refine r_iload_n C dX10_region_19 rfl ?_
  refine r_iload_n C dX10_region_20 rfl ?_
  refine r_iload_n C dX10_region_21 rfl ?_
  refine cvI_X10_51 C dX10_region_22 (c_X5_addRegion 1 hz.2.1.2.1 _ _ _) hz.2.1.2.1.1 (hz.2.1.2.1.k (by decide)) ⟨rfl, rfl⟩ rfl rfl rfl ?_
  refine cvI_X10_47 C dX10_region_25 (c_X10_settled hz (hyPi_of (by rw [rsAddRegion_out (by omega), zPrep_out hc (by omega)]) hc.2.1) _) hz.1 hz.2.2.2.2.2 ⟨rfl, rfl⟩ rfl rfl rfl ?_
  exact hE _ _ _ _ dX10_region_28 (by unfold zSet; constructor <;> split <;> rfl)
set_option maxRecDepth 100000 in
set_option maxHeartbeats 4000000 in
theorem c_X10_join {g : mG} {l : Launch} {tpl : mT} {b n : Nat} {v : mV} (hz : isZ g tpl b n) (hc : CI v) (x y : Int32) : CT g l tpl b n yX10_join cX10_join 3 (some .int) rm_X10_join [.ref (b + 0), .int x, .int y] v (pI (zSet (rsJoin (zPrep v) 1 x y)).1 (zSet (rsJoin (zPrep v) 1 x y)).2) := by
  refine CT.introI [some (.ref (b + 0)), some (.int x), some (.int y)] (own := RX10) (by decide +kernel) rfl rfl rfl rfl ?_
  intro p e s m args below meth c Q C hE
  refine r_aload_n C dX10_join_0 rfl ?_
  refine gf_X10_22 C dX10_join_1 hz.1 hz.2.2.2.2.2 ?_
  refine r_aload_n C dX10_join_4 rfl ?_
  refine gf_X10_10 C dX10_join_5 hz.1 hz.2.2.2.2.2 ?_
  refine cvV_X10_33 C dX10_join_8 (c_X0_prepare 93 hz.2.2.2.1 1 hz.2.1 (by omega) hc.2.1 hc.2.2.1) hz.2.2.2.1.1 hz.2.2.2.1.k0 ⟨rfl, rfl⟩ rfl rfl rfl ?_
  rw [show hyPrep v 93 1 = zPrep v from rfl]
  refine r_aload_n C dX10_join_11 rfl ?_
  refine r_aload_n C dX10_join_12 rfl ?_
  refine gf_X10_10 C dX10_join_13 hz.1 hz.2.2.2.2.2 ?_
  refine gf_X10_37 C dX10_join_16 hz.2.1.1 hz.2.1.k0 ?_
  refine r_iload_n C dX10_join_19 rfl ?_
  refine r_iload_n C dX10_join_20 rfl ?_
  refine cvI_X10_55 C dX10_join_21 (c_X5_letJoin 1 hz.2.1.2.1 _ _) hz.2.1.2.1.1 (hz.2.1.2.1.k (by decide)) ⟨rfl, rfl⟩ rfl rfl rfl ?_
  refine cvI_X10_47 C dX10_join_24 (c_X10_settled hz (hyPi_of (by rw [rsJoin_out (by omega), zPrep_out hc (by omega)]) hc.2.1) _) hz.1 hz.2.2.2.2.2 ⟨rfl, rfl⟩ rfl rfl rfl ?_
  exact hE _ _ _ _ dX10_join_27 (by unfold zSet; constructor <;> split <;> rfl)
set_option maxRecDepth 100000 in
set_option maxHeartbeats 4000000 in
theorem c_X10_leave {g : mG} {l : Launch} {tpl : mT} {b n : Nat} {v : mV} (hz : isZ g tpl b n) (hc : CI v) (x y : Int32) : CT g l tpl b n yX10_leave cX10_leave 3 (some .int) rm_X10_leave [.ref (b + 0), .int x, .int y] v (pI (zSet (rsLeave (zPrep v) 1 x y)).1 (zSet (rsLeave (zPrep v) 1 x y)).2) := by
  refine CT.introI [some (.ref (b + 0)), some (.int x), some (.int y)] (own := RX10) (by decide +kernel) rfl rfl rfl rfl ?_
  intro p e s m args below meth c Q C hE
  refine r_aload_n C dX10_leave_0 rfl ?_
  refine gf_X10_22 C dX10_leave_1 hz.1 hz.2.2.2.2.2 ?_
  refine r_aload_n C dX10_leave_4 rfl ?_
  refine gf_X10_10 C dX10_leave_5 hz.1 hz.2.2.2.2.2 ?_
  refine cvV_X10_33 C dX10_leave_8 (c_X0_prepare 93 hz.2.2.2.1 1 hz.2.1 (by omega) hc.2.1 hc.2.2.1) hz.2.2.2.1.1 hz.2.2.2.1.k0 ⟨rfl, rfl⟩ rfl rfl rfl ?_
  rw [show hyPrep v 93 1 = zPrep v from rfl]
  refine r_aload_n C dX10_leave_11 rfl ?_
  refine r_aload_n C dX10_leave_12 rfl ?_
  refine gf_X10_10 C dX10_leave_13 hz.1 hz.2.2.2.2.2 ?_
  refine gf_X10_37 C dX10_leave_16 hz.2.1.1 hz.2.1.k0 ?_
  refine r_iload_n C dX10_leave_19 rfl ?_
  refine r_iload_n C dX10_leave_20 rfl ?_
  refine cvI_X10_59 C dX10_leave_21 (c_X5_letLeave 1 hz.2.1.2.1 _ _) hz.2.1.2.1.1 (hz.2.1.2.1.k (by decide)) ⟨rfl, rfl⟩ rfl rfl rfl ?_
  refine cvI_X10_47 C dX10_leave_24 (c_X10_settled hz (hyPi_of (by rw [rsLeave_out (by omega), zPrep_out hc (by omega)]) hc.2.1) _) hz.1 hz.2.2.2.2.2 ⟨rfl, rfl⟩ rfl rfl rfl ?_
  exact hE _ _ _ _ dX10_leave_27 (by unfold zSet; constructor <;> split <;> rfl)
set_option maxRecDepth 100000 in
set_option maxHeartbeats 4000000 in
theorem c_X10_quiet {g : mG} {l : Launch} {tpl : mT} {b n : Nat} {v : mV} (hz : isZ g tpl b n) (hc : CI v) (x y z : Int32) : CT g l tpl b n yX10_quiet cX10_quiet 4 (some .int) rm_X10_quiet [.ref (b + 0), .int x, .int y, .int z] v (pI (zSet (rsQuiet (zPrep v) 1 x y z)).1 (zSet (rsQuiet (zPrep v) 1 x y z)).2) := by
  refine CT.introI [some (.ref (b + 0)), some (.int x), some (.int y), some (.int z)] (own := RX10) (by decide +kernel) rfl rfl rfl rfl ?_
  intro p e s m args below meth c Q C hE
  refine r_aload_n C dX10_quiet_0 rfl ?_
  refine gf_X10_22 C dX10_quiet_1 hz.1 hz.2.2.2.2.2 ?_
  refine r_aload_n C dX10_quiet_4 rfl ?_
  refine gf_X10_10 C dX10_quiet_5 hz.1 hz.2.2.2.2.2 ?_
  refine cvV_X10_33 C dX10_quiet_8 (c_X0_prepare 93 hz.2.2.2.1 1 hz.2.1 (by omega) hc.2.1 hc.2.2.1) hz.2.2.2.1.1 hz.2.2.2.1.k0 ⟨rfl, rfl⟩ rfl rfl rfl ?_
  rw [show hyPrep v 93 1 = zPrep v from rfl]
  refine r_aload_n C dX10_quiet_11 rfl ?_
  refine r_aload_n C dX10_quiet_12 rfl ?_
  refine gf_X10_10 C dX10_quiet_13 hz.1 hz.2.2.2.2.2 ?_
  refine gf_X10_37 C dX10_quiet_16 hz.2.1.1 hz.2.1.k0 ?_
  refine r_iload_n C dX10_quiet_19 rfl ?_
  refine r_iload_n C dX10_quiet_20 rfl ?_
  refine r_iload_n C dX10_quiet_21 rfl ?_
  refine cvI_X10_62 C dX10_quiet_22 (c_X5_putQuietHours 1 hz.2.1.2.1 _ _ _) hz.2.1.2.1.1 (hz.2.1.2.1.k (by decide)) ⟨rfl, rfl⟩ rfl rfl rfl ?_
  refine cvI_X10_47 C dX10_quiet_25 (c_X10_settled hz (hyPi_of (by rw [rsQuiet_out (by omega), zPrep_out hc (by omega)]) hc.2.1) _) hz.1 hz.2.2.2.2.2 ⟨rfl, rfl⟩ rfl rfl rfl ?_
  exact hE _ _ _ _ dX10_quiet_28 (by unfold zSet; constructor <;> split <;> rfl)
set_option maxRecDepth 100000 in
set_option maxHeartbeats 4000000 in
theorem c_X10_override {g : mG} {l : Launch} {tpl : mT} {b n : Nat} {v : mV} (hz : isZ g tpl b n) (hc : CI v) (x y z : Int32) : CT g l tpl b n yX10_override cX10_override 4 (some .int) rm_X10_override [.ref (b + 0), .int x, .int y, .int z] v (pI (zSet (hsPutStand (zPrep v) 1 x y z)).1 (zSet (hsPutStand (zPrep v) 1 x y z)).2) := by
  refine CT.introI [some (.ref (b + 0)), some (.int x), some (.int y), some (.int z)] (own := RX10) (by decide +kernel) rfl rfl rfl rfl ?_
  intro p e s m args below meth c Q C hE
  refine r_aload_n C dX10_override_0 rfl ?_
  refine gf_X10_22 C dX10_override_1 hz.1 hz.2.2.2.2.2 ?_
  refine r_aload_n C dX10_override_4 rfl ?_
  refine gf_X10_10 C dX10_override_5 hz.1 hz.2.2.2.2.2 ?_
  refine cvV_X10_33 C dX10_override_8 (c_X0_prepare 93 hz.2.2.2.1 1 hz.2.1 (by omega) hc.2.1 hc.2.2.1) hz.2.2.2.1.1 hz.2.2.2.1.k0 ⟨rfl, rfl⟩ rfl rfl rfl ?_
  rw [show hyPrep v 93 1 = zPrep v from rfl]
  refine r_aload_n C dX10_override_11 rfl ?_
  refine r_aload_n C dX10_override_12 rfl ?_
  refine gf_X10_10 C dX10_override_13 hz.1 hz.2.2.2.2.2 ?_
  refine r_iload_n C dX10_override_16 rfl ?_
  refine r_iload_n C dX10_override_17 rfl ?_
  refine r_iload_n C dX10_override_18 rfl ?_
  refine cvI_X10_68 C dX10_override_19 (c_X1_putStandIn 1 hz.2.1 _ _ _) hz.2.1.1 hz.2.1.k0 ⟨rfl, rfl⟩ rfl rfl rfl ?_
  refine cvI_X10_47 C dX10_override_22 (c_X10_settled hz (hyPi_of (by rw [hsPutStand_hi (by omega), zPrep_out hc (by omega)]) hc.2.1) _) hz.1 hz.2.2.2.2.2 ⟨rfl, rfl⟩ rfl rfl rfl ?_
  exact hE _ _ _ _ dX10_override_25 (by unfold zSet; constructor <;> split <;> rfl)
set_option maxRecDepth 100000 in
set_option maxHeartbeats 4000000 in
theorem c_X10_alert {g : mG} {l : Launch} {tpl : mT} {b n : Nat} {v : mV} (hz : isZ g tpl b n) (hc : CI v) (x y : Int32) : CT g l tpl b n yX10_alert cX10_alert 3 (some .int) rm_X10_alert [.ref (b + 0), .int x, .int y] v (pI (zSet (hsAlert (zPrep v) 1 x y)).1 (zSet (hsAlert (zPrep v) 1 x y)).2) := by
  refine CT.introI [some (.ref (b + 0)), some (.int x), some (.int y)] (own := RX10) (by decide +kernel) rfl rfl rfl rfl ?_
  intro p e s m args below meth c Q C hE
  refine r_aload_n C dX10_alert_0 rfl ?_
  refine gf_X10_22 C dX10_alert_1 hz.1 hz.2.2.2.2.2 ?_
  refine r_aload_n C dX10_alert_4 rfl ?_
  refine gf_X10_10 C dX10_alert_5 hz.1 hz.2.2.2.2.2 ?_
  refine cvV_X10_33 C dX10_alert_8 (c_X0_prepare 93 hz.2.2.2.1 1 hz.2.1 (by omega) hc.2.1 hc.2.2.1) hz.2.2.2.1.1 hz.2.2.2.1.k0 ⟨rfl, rfl⟩ rfl rfl rfl ?_
  rw [show hyPrep v 93 1 = zPrep v from rfl]
  obtain ⟨q, hq6, hq⟩ : SQ (zPrep v) 1 := SQ_of (zPrep_out hc (by omega)) hc.1
  refine r_aload_n C dX10_alert_11 rfl ?_
  refine r_aload_n C dX10_alert_12 rfl ?_
  refine gf_X10_10 C dX10_alert_13 hz.1 hz.2.2.2.2.2 ?_
  refine r_iload_n C dX10_alert_16 rfl ?_
  refine r_iload_n C dX10_alert_17 rfl ?_
  refine cvI_X10_125 C dX10_alert_18 (c_X1_takeAlert 1 hz.2.1 q hq hq6 _ _) hz.2.1.1 hz.2.1.k0 ⟨rfl, rfl⟩ rfl rfl rfl ?_
  refine cvI_X10_47 C dX10_alert_21 (c_X10_settled hz (hyPi_of (by rw [hsAlert_out (by omega), zPrep_out hc (by omega)]) hc.2.1) _) hz.1 hz.2.2.2.2.2 ⟨rfl, rfl⟩ rfl rfl rfl ?_
  exact hE _ _ _ _ dX10_alert_24 (by unfold zSet; constructor <;> split <;> rfl)
set_option maxRecDepth 100000 in
set_option maxHeartbeats 4000000 in
theorem c_X10_acknowledge {g : mG} {l : Launch} {tpl : mT} {b n : Nat} {v : mV} (hz : isZ g tpl b n) (hc : CI v) (x : Int32) : CT g l tpl b n yX10_acknowledge cX10_acknowledge 2 (some .int) rm_X10_acknowledge [.ref (b + 0), .int x] v (pI (zSet (hsAck (zPrep v) 1 x)).1 (zSet (hsAck (zPrep v) 1 x)).2) := by
  refine CT.introI [some (.ref (b + 0)), some (.int x)] (own := RX10) (by decide +kernel) rfl rfl rfl rfl ?_
  intro p e s m args below meth c Q C hE
  refine r_aload_n C dX10_acknowledge_0 rfl ?_
  refine gf_X10_22 C dX10_acknowledge_1 hz.1 hz.2.2.2.2.2 ?_
  refine r_aload_n C dX10_acknowledge_4 rfl ?_
  refine gf_X10_10 C dX10_acknowledge_5 hz.1 hz.2.2.2.2.2 ?_
  refine cvV_X10_33 C dX10_acknowledge_8 (c_X0_prepare 93 hz.2.2.2.1 1 hz.2.1 (by omega) hc.2.1 hc.2.2.1) hz.2.2.2.1.1 hz.2.2.2.1.k0 ⟨rfl, rfl⟩ rfl rfl rfl ?_
  rw [show hyPrep v 93 1 = zPrep v from rfl]
  refine r_aload_n C dX10_acknowledge_11 rfl ?_
  refine r_aload_n C dX10_acknowledge_12 rfl ?_
  refine gf_X10_10 C dX10_acknowledge_13 hz.1 hz.2.2.2.2.2 ?_
  refine r_iload_n C dX10_acknowledge_16 rfl ?_
  refine cvI_X10_128 C dX10_acknowledge_17 (c_X1_takeAcknowledgement 1 hz.2.1 _) hz.2.1.1 hz.2.1.k0 ⟨rfl, rfl⟩ rfl rfl rfl ?_
  refine cvI_X10_47 C dX10_acknowledge_20 (c_X10_settled hz (hyPi_of (by rw [hsAck_out (by omega), zPrep_out hc (by omega)]) hc.2.1) _) hz.1 hz.2.2.2.2.2 ⟨rfl, rfl⟩ rfl rfl rfl ?_
  exact hE _ _ _ _ dX10_acknowledge_23 (by unfold zSet; constructor <;> split <;> rfl)
set_option maxRecDepth 100000 in
set_option maxHeartbeats 4000000 in
theorem c_X10_resolve {g : mG} {l : Launch} {tpl : mT} {b n : Nat} {v : mV} (hz : isZ g tpl b n) (hc : CI v) (x : Int32) : CT g l tpl b n yX10_resolve cX10_resolve 2 (some .int) rm_X10_resolve [.ref (b + 0), .int x] v (pI (zSet (hsClose (zPrep v) 1 x)).1 (zSet (hsClose (zPrep v) 1 x)).2) := by
  refine CT.introI [some (.ref (b + 0)), some (.int x)] (own := RX10) (by decide +kernel) rfl rfl rfl rfl ?_
  intro p e s m args below meth c Q C hE
  refine r_aload_n C dX10_resolve_0 rfl ?_
  refine gf_X10_22 C dX10_resolve_1 hz.1 hz.2.2.2.2.2 ?_
  refine r_aload_n C dX10_resolve_4 rfl ?_
  refine gf_X10_10 C dX10_resolve_5 hz.1 hz.2.2.2.2.2 ?_
  refine cvV_X10_33 C dX10_resolve_8 (c_X0_prepare 93 hz.2.2.2.1 1 hz.2.1 (by omega) hc.2.1 hc.2.2.1) hz.2.2.2.1.1 hz.2.2.2.1.k0 ⟨rfl, rfl⟩ rfl rfl rfl ?_
  rw [show hyPrep v 93 1 = zPrep v from rfl]
  refine r_aload_n C dX10_resolve_11 rfl ?_
  refine r_aload_n C dX10_resolve_12 rfl ?_
  refine gf_X10_10 C dX10_resolve_13 hz.1 hz.2.2.2.2.2 ?_
  refine r_iload_n C dX10_resolve_16 rfl ?_
  refine cvI_X10_131 C dX10_resolve_17 (c_X1_close 1 hz.2.1 _) hz.2.1.1 hz.2.1.k0 ⟨rfl, rfl⟩ rfl rfl rfl ?_
  refine cvI_X10_47 C dX10_resolve_20 (c_X10_settled hz (hyPi_of (by rw [hsClose_out (by omega), zPrep_out hc (by omega)]) hc.2.1) _) hz.1 hz.2.2.2.2.2 ⟨rfl, rfl⟩ rfl rfl rfl ?_
  exact hE _ _ _ _ dX10_resolve_23 (by unfold zSet; constructor <;> split <;> rfl)
set_option maxRecDepth 100000 in
set_option maxHeartbeats 4000000 in
theorem c_X10_pass {g : mG} {l : Launch} {tpl : mT} {b n : Nat} {v : mV} (hz : isZ g tpl b n) (hc : CI v) (x : Int32) : CT g l tpl b n yX10_pass cX10_pass 2 (some .int) rm_X10_pass [.ref (b + 0), .int x] v (pI (zSet (hsPass (zPrep v) 1 x)).1 (zSet (hsPass (zPrep v) 1 x)).2) := by
  refine CT.introI [some (.ref (b + 0)), some (.int x)] (own := RX10) (by decide +kernel) rfl rfl rfl rfl ?_
  intro p e s m args below meth c Q C hE
  refine r_aload_n C dX10_pass_0 rfl ?_
  refine gf_X10_22 C dX10_pass_1 hz.1 hz.2.2.2.2.2 ?_
  refine r_aload_n C dX10_pass_4 rfl ?_
  refine gf_X10_10 C dX10_pass_5 hz.1 hz.2.2.2.2.2 ?_
  refine cvV_X10_33 C dX10_pass_8 (c_X0_prepare 93 hz.2.2.2.1 1 hz.2.1 (by omega) hc.2.1 hc.2.2.1) hz.2.2.2.1.1 hz.2.2.2.1.k0 ⟨rfl, rfl⟩ rfl rfl rfl ?_
  rw [show hyPrep v 93 1 = zPrep v from rfl]
  obtain ⟨q, hq6, hq⟩ : SQ (zPrep v) 1 := SQ_of (zPrep_out hc (by omega)) hc.1
  refine r_aload_n C dX10_pass_11 rfl ?_
  refine r_aload_n C dX10_pass_12 rfl ?_
  refine gf_X10_10 C dX10_pass_13 hz.1 hz.2.2.2.2.2 ?_
  refine r_iload_n C dX10_pass_16 rfl ?_
  refine cvI_X10_134 C dX10_pass_17 (c_X1_letPass 1 hz.2.1 q hq hq6 _) hz.2.1.1 hz.2.1.k0 ⟨rfl, rfl⟩ rfl rfl rfl ?_
  refine cvI_X10_47 C dX10_pass_20 (c_X10_settled hz (hyPi_of (by rw [hsPass_out (by omega), zPrep_out hc (by omega)]) hc.2.1) _) hz.1 hz.2.2.2.2.2 ⟨rfl, rfl⟩ rfl rfl rfl ?_
  exact hE _ _ _ _ dX10_pass_23 (by unfold zSet; constructor <;> split <;> rfl)
set_option maxRecDepth 100000 in
set_option maxHeartbeats 4000000 in
theorem c_X10_set {g : mG} {l : Launch} {tpl : mT} {b n : Nat} {v : mV} (hz : isZ g tpl b n) (hc : CI v) (x y : Int32) : CT g l tpl b n yX10_set cX10_set 3 (some .int) rm_X10_set [.ref (b + 0), .int x, .int y] v (pI (zSet (hsSet (zPrep v) 1 x y)).1 (zSet (hsSet (zPrep v) 1 x y)).2) := by
  refine CT.introI [some (.ref (b + 0)), some (.int x), some (.int y)] (own := RX10) (by decide +kernel) rfl rfl rfl rfl ?_
  intro p e s m args below meth c Q C hE
  refine r_aload_n C dX10_set_0 rfl ?_
  refine gf_X10_22 C dX10_set_1 hz.1 hz.2.2.2.2.2 ?_
  refine r_aload_n C dX10_set_4 rfl ?_
  refine gf_X10_10 C dX10_set_5 hz.1 hz.2.2.2.2.2 ?_
  refine cvV_X10_33 C dX10_set_8 (c_X0_prepare 93 hz.2.2.2.1 1 hz.2.1 (by omega) hc.2.1 hc.2.2.1) hz.2.2.2.1.1 hz.2.2.2.1.k0 ⟨rfl, rfl⟩ rfl rfl rfl ?_
  rw [show hyPrep v 93 1 = zPrep v from rfl]
  refine r_aload_n C dX10_set_11 rfl ?_
  refine r_aload_n C dX10_set_12 rfl ?_
  refine gf_X10_10 C dX10_set_13 hz.1 hz.2.2.2.2.2 ?_
  refine r_iload_n C dX10_set_16 rfl ?_
  refine r_iload_n C dX10_set_17 rfl ?_
  refine cvI_X10_137 C dX10_set_18 (c_X1_putSetting 1 hz.2.1 _ _) hz.2.1.1 hz.2.1.k0 ⟨rfl, rfl⟩ rfl rfl rfl ?_
  refine cvI_X10_47 C dX10_set_21 (c_X10_settled hz (hyPi_of (by rw [hsSet_out (by omega), zPrep_out hc (by omega)]) hc.2.1) _) hz.1 hz.2.2.2.2.2 ⟨rfl, rfl⟩ rfl rfl rfl ?_
  exact hE _ _ _ _ dX10_set_24 (by unfold zSet; constructor <;> split <;> rfl)
