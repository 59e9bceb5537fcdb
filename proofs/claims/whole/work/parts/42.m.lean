set_option maxRecDepth 100000 in
set_option maxHeartbeats 4000000 in
theorem c_X11_person {g : mG} {l : Launch} {tpl : mT} {b n : Nat} {v : mV} {σ : Nat → Int32} (hm : isM g tpl b n) (hI : MI σ) (st : Nat) (hst : v 0 4 = nI st) (hst4 : st ≤ 4) : CT g l tpl b n yX11_person cX11_person 1 (some .int) rm_X11_person [.ref (b + 0)] (sv v σ) (pI (mDone v σ st (mComes σ)).1 (mDone v σ st (mComes σ)).2) := by
  refine CT.introI [some (.ref (b + 0))] (own := RX11) (by decide +kernel) rfl rfl rfl rfl ?_
  intro p e s m args below meth c Q C hE
  refine r_aload_n C dX11_person_0 rfl ?_
  refine cvV_X11_108 C dX11_person_1 (c_X11_begins hm) hm.1 (hm.k (by decide)) ⟨rfl, rfl⟩ rfl rfl rfl ?_
  refine r_aload_n C dX11_person_4 rfl ?_
  refine r_aload_n C dX11_person_5 rfl ?_
  refine cvI_X11_111 C dX11_person_6 (c_X11_comes hm hI) hm.1 (hm.k (by decide)) ⟨rfl, rfl⟩ rfl rfl rfl ?_
  refine cvI_X11_114 C dX11_person_9 (c_X11_acted hm st (by rw [sv_o (by omega), mBegin, cpR_o (by omega)]; exact hst) hst4 _) hm.1 (hm.k (by decide)) ⟨rfl, rfl⟩ rfl rfl rfl ?_
  exact hE _ _ _ _ dX11_person_12 (by unfold mDone; constructor <;> split <;> rfl)
set_option maxRecDepth 100000 in
set_option maxHeartbeats 4000000 in
theorem c_X11_region {g : mG} {l : Launch} {tpl : mT} {b n : Nat} {v : mV} {σ : Nat → Int32} (hm : isM g tpl b n) (hI : MI σ) (st : Nat) (hst : v 0 4 = nI st) (hst4 : st ≤ 4) (x y z : Int32) : CT g l tpl b n yX11_region cX11_region 4 (some .int) rm_X11_region [.ref (b + 0), .int x, .int y, .int z] (sv v σ) (pI (mDone v σ st (mLies σ x y z)).1 (mDone v σ st (mLies σ x y z)).2) := by
  refine CT.introI [some (.ref (b + 0)), some (.int x), some (.int y), some (.int z)] (own := RX11) (by decide +kernel) rfl rfl rfl rfl ?_
  intro p e s m args below meth c Q C hE
  refine r_aload_n C dX11_region_0 rfl ?_
  refine cvV_X11_108 C dX11_region_1 (c_X11_begins hm) hm.1 (hm.k (by decide)) ⟨rfl, rfl⟩ rfl rfl rfl ?_
  refine r_aload_n C dX11_region_4 rfl ?_
  refine r_aload_n C dX11_region_5 rfl ?_
  refine r_iload_n C dX11_region_6 rfl ?_
  refine r_iload_n C dX11_region_7 rfl ?_
  refine r_iload_n C dX11_region_8 rfl ?_
  refine cvI_X11_117 C dX11_region_9 (c_X11_lies hm hI _ _ _) hm.1 (hm.k (by decide)) ⟨rfl, rfl⟩ rfl rfl rfl ?_
  refine cvI_X11_114 C dX11_region_12 (c_X11_acted hm st (by rw [sv_o (by omega), mBegin, cpR_o (by omega)]; exact hst) hst4 _) hm.1 (hm.k (by decide)) ⟨rfl, rfl⟩ rfl rfl rfl ?_
  exact hE _ _ _ _ dX11_region_15 (by unfold mDone; constructor <;> split <;> rfl)
set_option maxRecDepth 100000 in
set_option maxHeartbeats 4000000 in
theorem c_X11_join {g : mG} {l : Launch} {tpl : mT} {b n : Nat} {v : mV} {σ : Nat → Int32} (hm : isM g tpl b n) (hI : MI σ) (st : Nat) (hst : v 0 4 = nI st) (hst4 : st ≤ 4) (x y : Int32) : CT g l tpl b n yX11_join cX11_join 3 (some .int) rm_X11_join [.ref (b + 0), .int x, .int y] (sv v σ) (pI (mDone v σ st (mJoins σ x y)).1 (mDone v σ st (mJoins σ x y)).2) := by
  refine CT.introI [some (.ref (b + 0)), some (.int x), some (.int y)] (own := RX11) (by decide +kernel) rfl rfl rfl rfl ?_
  intro p e s m args below meth c Q C hE
  refine r_aload_n C dX11_join_0 rfl ?_
  refine cvV_X11_108 C dX11_join_1 (c_X11_begins hm) hm.1 (hm.k (by decide)) ⟨rfl, rfl⟩ rfl rfl rfl ?_
  refine r_aload_n C dX11_join_4 rfl ?_
  refine r_aload_n C dX11_join_5 rfl ?_
  refine r_iload_n C dX11_join_6 rfl ?_
  refine r_iload_n C dX11_join_7 rfl ?_
  refine cvI_X11_121 C dX11_join_8 (c_X11_joins hm hI _ _) hm.1 (hm.k (by decide)) ⟨rfl, rfl⟩ rfl rfl rfl ?_
  refine cvI_X11_114 C dX11_join_11 (c_X11_acted hm st (by rw [sv_o (by omega), mBegin, cpR_o (by omega)]; exact hst) hst4 _) hm.1 (hm.k (by decide)) ⟨rfl, rfl⟩ rfl rfl rfl ?_
  exact hE _ _ _ _ dX11_join_14 (by unfold mDone; constructor <;> split <;> rfl)
set_option maxRecDepth 100000 in
set_option maxHeartbeats 4000000 in
theorem c_X11_leave {g : mG} {l : Launch} {tpl : mT} {b n : Nat} {v : mV} {σ : Nat → Int32} (hm : isM g tpl b n) (hI : MI σ) (st : Nat) (hst : v 0 4 = nI st) (hst4 : st ≤ 4) (x y : Int32) : CT g l tpl b n yX11_leave cX11_leave 3 (some .int) rm_X11_leave [.ref (b + 0), .int x, .int y] (sv v σ) (pI (mDone v σ st (mLeaves σ x y)).1 (mDone v σ st (mLeaves σ x y)).2) := by
  refine CT.introI [some (.ref (b + 0)), some (.int x), some (.int y)] (own := RX11) (by decide +kernel) rfl rfl rfl rfl ?_
  intro p e s m args below meth c Q C hE
  refine r_aload_n C dX11_leave_0 rfl ?_
  refine cvV_X11_108 C dX11_leave_1 (c_X11_begins hm) hm.1 (hm.k (by decide)) ⟨rfl, rfl⟩ rfl rfl rfl ?_
  refine r_aload_n C dX11_leave_4 rfl ?_
  refine r_aload_n C dX11_leave_5 rfl ?_
  refine r_iload_n C dX11_leave_6 rfl ?_
  refine r_iload_n C dX11_leave_7 rfl ?_
  refine cvI_X11_124 C dX11_leave_8 (c_X11_leaves hm hI _ _) hm.1 (hm.k (by decide)) ⟨rfl, rfl⟩ rfl rfl rfl ?_
  refine cvI_X11_114 C dX11_leave_11 (c_X11_acted hm st (by rw [sv_o (by omega), mBegin, cpR_o (by omega)]; exact hst) hst4 _) hm.1 (hm.k (by decide)) ⟨rfl, rfl⟩ rfl rfl rfl ?_
  exact hE _ _ _ _ dX11_leave_14 (by unfold mDone; constructor <;> split <;> rfl)
set_option maxRecDepth 100000 in
set_option maxHeartbeats 4000000 in
theorem c_X11_quiet {g : mG} {l : Launch} {tpl : mT} {b n : Nat} {v : mV} {σ : Nat → Int32} (hm : isM g tpl b n) (hI : MI σ) (st : Nat) (hst : v 0 4 = nI st) (hst4 : st ≤ 4) (x y z : Int32) : CT g l tpl b n yX11_quiet cX11_quiet 4 (some .int) rm_X11_quiet [.ref (b + 0), .int x, .int y, .int z] (sv v σ) (pI (mDone v σ st (mRests σ x y z)).1 (mDone v σ st (mRests σ x y z)).2) := by
  refine CT.introI [some (.ref (b + 0)), some (.int x), some (.int y), some (.int z)] (own := RX11) (by decide +kernel) rfl rfl rfl rfl ?_
  intro p e s m args below meth c Q C hE
  refine r_aload_n C dX11_quiet_0 rfl ?_
  refine cvV_X11_108 C dX11_quiet_1 (c_X11_begins hm) hm.1 (hm.k (by decide)) ⟨rfl, rfl⟩ rfl rfl rfl ?_
  refine r_aload_n C dX11_quiet_4 rfl ?_
  refine r_aload_n C dX11_quiet_5 rfl ?_
  refine r_iload_n C dX11_quiet_6 rfl ?_
  refine r_iload_n C dX11_quiet_7 rfl ?_
  refine r_iload_n C dX11_quiet_8 rfl ?_
  refine cvI_X11_127 C dX11_quiet_9 (c_X11_rests hm hI _ _ _) hm.1 (hm.k (by decide)) ⟨rfl, rfl⟩ rfl rfl rfl ?_
  refine cvI_X11_114 C dX11_quiet_12 (c_X11_acted hm st (by rw [sv_o (by omega), mBegin, cpR_o (by omega)]; exact hst) hst4 _) hm.1 (hm.k (by decide)) ⟨rfl, rfl⟩ rfl rfl rfl ?_
  exact hE _ _ _ _ dX11_quiet_15 (by unfold mDone; constructor <;> split <;> rfl)
set_option maxRecDepth 100000 in
set_option maxHeartbeats 4000000 in
theorem c_X11_override {g : mG} {l : Launch} {tpl : mT} {b n : Nat} {v : mV} {σ : Nat → Int32} (hm : isM g tpl b n) (hI : MI σ) (st : Nat) (hst : v 0 4 = nI st) (hst4 : st ≤ 4) (x y z : Int32) : CT g l tpl b n yX11_override cX11_override 4 (some .int) rm_X11_override [.ref (b + 0), .int x, .int y, .int z] (sv v σ) (pI (mDone v σ st (mOverrides σ x y z)).1 (mDone v σ st (mOverrides σ x y z)).2) := by
  refine CT.introI [some (.ref (b + 0)), some (.int x), some (.int y), some (.int z)] (own := RX11) (by decide +kernel) rfl rfl rfl rfl ?_
  intro p e s m args below meth c Q C hE
  refine r_aload_n C dX11_override_0 rfl ?_
  refine cvV_X11_108 C dX11_override_1 (c_X11_begins hm) hm.1 (hm.k (by decide)) ⟨rfl, rfl⟩ rfl rfl rfl ?_
  refine r_aload_n C dX11_override_4 rfl ?_
  refine r_aload_n C dX11_override_5 rfl ?_
  refine r_iload_n C dX11_override_6 rfl ?_
  refine r_iload_n C dX11_override_7 rfl ?_
  refine r_iload_n C dX11_override_8 rfl ?_
  refine cvI_X11_133 C dX11_override_9 (c_X11_overrides hm hI _ _ _) hm.1 (hm.k (by decide)) ⟨rfl, rfl⟩ rfl rfl rfl ?_
  refine cvI_X11_114 C dX11_override_12 (c_X11_acted hm st (by rw [sv_o (by omega), mBegin, cpR_o (by omega)]; exact hst) hst4 _) hm.1 (hm.k (by decide)) ⟨rfl, rfl⟩ rfl rfl rfl ?_
  exact hE _ _ _ _ dX11_override_15 (by unfold mDone; constructor <;> split <;> rfl)
set_option maxRecDepth 100000 in
set_option maxHeartbeats 4000000 in
theorem c_X11_alert {g : mG} {l : Launch} {tpl : mT} {b n : Nat} {v : mV} {σ : Nat → Int32} (hm : isM g tpl b n) (hI : MI σ) (st : Nat) (hst : v 0 4 = nI st) (hst4 : st ≤ 4) (x y : Int32) : CT g l tpl b n yX11_alert cX11_alert 3 (some .int) rm_X11_alert [.ref (b + 0), .int x, .int y] (sv v σ) (pI (mDone v σ st (mAlerts σ x y)).1 (mDone v σ st (mAlerts σ x y)).2) := by
  refine CT.introI [some (.ref (b + 0)), some (.int x), some (.int y)] (own := RX11) (by decide +kernel) rfl rfl rfl rfl ?_
  intro p e s m args below meth c Q C hE
  refine r_aload_n C dX11_alert_0 rfl ?_
  refine cvV_X11_108 C dX11_alert_1 (c_X11_begins hm) hm.1 (hm.k (by decide)) ⟨rfl, rfl⟩ rfl rfl rfl ?_
  refine r_aload_n C dX11_alert_4 rfl ?_
  refine r_aload_n C dX11_alert_5 rfl ?_
  refine r_iload_n C dX11_alert_6 rfl ?_
  refine r_iload_n C dX11_alert_7 rfl ?_
  refine cvI_X11_136 C dX11_alert_8 (c_X11_alerts hm hI _ _) hm.1 (hm.k (by decide)) ⟨rfl, rfl⟩ rfl rfl rfl ?_
  refine cvI_X11_114 C dX11_alert_11 (c_X11_acted hm st (by rw [sv_o (by omega), mBegin, cpR_o (by omega)]; exact hst) hst4 _) hm.1 (hm.k (by decide)) ⟨rfl, rfl⟩ rfl rfl rfl ?_
  exact hE _ _ _ _ dX11_alert_14 (by unfold mDone; constructor <;> split <;> rfl)
set_option maxRecDepth 100000 in
set_option maxHeartbeats 4000000 in
theorem c_X11_acknowledge {g : mG} {l : Launch} {tpl : mT} {b n : Nat} {v : mV} {σ : Nat → Int32} (hm : isM g tpl b n) (hI : MI σ) (st : Nat) (hst : v 0 4 = nI st) (hst4 : st ≤ 4) (x : Int32) : CT g l tpl b n yX11_acknowledge cX11_acknowledge 2 (some .int) rm_X11_acknowledge [.ref (b + 0), .int x] (sv v σ) (pI (mDone v σ st (mAcks σ x)).1 (mDone v σ st (mAcks σ x)).2) := by
  refine CT.introI [some (.ref (b + 0)), some (.int x)] (own := RX11) (by decide +kernel) rfl rfl rfl rfl ?_
  intro p e s m args below meth c Q C hE
  refine r_aload_n C dX11_acknowledge_0 rfl ?_
  refine cvV_X11_108 C dX11_acknowledge_1 (c_X11_begins hm) hm.1 (hm.k (by decide)) ⟨rfl, rfl⟩ rfl rfl rfl ?_
  refine r_aload_n C dX11_acknowledge_4 rfl ?_
  refine r_aload_n C dX11_acknowledge_5 rfl ?_
  refine r_iload_n C dX11_acknowledge_6 rfl ?_
  refine cvI_X11_139 C dX11_acknowledge_7 (c_X11_acknowledges hm hI _) hm.1 (hm.k (by decide)) ⟨rfl, rfl⟩ rfl rfl rfl ?_
  refine cvI_X11_114 C dX11_acknowledge_10 (c_X11_acted hm st (by rw [sv_o (by omega), mBegin, cpR_o (by omega)]; exact hst) hst4 _) hm.1 (hm.k (by decide)) ⟨rfl, rfl⟩ rfl rfl rfl ?_
  exact hE _ _ _ _ dX11_acknowledge_13 (by unfold mDone; constructor <;> split <;> rfl)
set_option maxRecDepth 100000 in
set_option maxHeartbeats 4000000 in
theorem c_X11_resolve {g : mG} {l : Launch} {tpl : mT} {b n : Nat} {v : mV} {σ : Nat → Int32} (hm : isM g tpl b n) (hI : MI σ) (st : Nat) (hst : v 0 4 = nI st) (hst4 : st ≤ 4) (x : Int32) : CT g l tpl b n yX11_resolve cX11_resolve 2 (some .int) rm_X11_resolve [.ref (b + 0), .int x] (sv v σ) (pI (mDone v σ st (mResolves σ x)).1 (mDone v σ st (mResolves σ x)).2) := by
  refine CT.introI [some (.ref (b + 0)), some (.int x)] (own := RX11) (by decide +kernel) rfl rfl rfl rfl ?_
  intro p e s m args below meth c Q C hE
  refine r_aload_n C dX11_resolve_0 rfl ?_
  refine cvV_X11_108 C dX11_resolve_1 (c_X11_begins hm) hm.1 (hm.k (by decide)) ⟨rfl, rfl⟩ rfl rfl rfl ?_
  refine r_aload_n C dX11_resolve_4 rfl ?_
  refine r_aload_n C dX11_resolve_5 rfl ?_
  refine r_iload_n C dX11_resolve_6 rfl ?_
  refine cvI_X11_142 C dX11_resolve_7 (c_X11_resolves hm hI _) hm.1 (hm.k (by decide)) ⟨rfl, rfl⟩ rfl rfl rfl ?_
  refine cvI_X11_114 C dX11_resolve_10 (c_X11_acted hm st (by rw [sv_o (by omega), mBegin, cpR_o (by omega)]; exact hst) hst4 _) hm.1 (hm.k (by decide)) ⟨rfl, rfl⟩ rfl rfl rfl ?_
  exact hE _ _ _ _ dX11_resolve_13 (by unfold mDone; constructor <;> split <;> rfl)
set_option maxRecDepth 100000 in
set_option maxHeartbeats 4000000 in
theorem c_X11_pass {g : mG} {l : Launch} {tpl : mT} {b n : Nat} {v : mV} {σ : Nat → Int32} (hm : isM g tpl b n) (T : Nat) (hM : MT σ T T) (hT : T ≤ 30000) (st : Nat) (hst : v 0 4 = nI st) (hst4 : st ≤ 4) (x : Int32) : CT g l tpl b n yX11_pass cX11_pass 2 (some .int) rm_X11_pass [.ref (b + 0), .int x] (sv v σ) (pI (mDone v σ st (mPass σ x)).1 (mDone v σ st (mPass σ x)).2) := by
  refine CT.introI [some (.ref (b + 0)), some (.int x)] (own := RX11) (by decide +kernel) rfl rfl rfl rfl ?_
  intro p e s m args below meth c Q C hE
  refine r_aload_n C dX11_pass_0 rfl ?_
  refine cvV_X11_108 C dX11_pass_1 (c_X11_begins hm) hm.1 (hm.k (by decide)) ⟨rfl, rfl⟩ rfl rfl rfl ?_
  refine r_aload_n C dX11_pass_4 rfl ?_
  refine r_aload_n C dX11_pass_5 rfl ?_
  refine r_iload_n C dX11_pass_6 rfl ?_
  refine cvI_X11_145 C dX11_pass_7 (c_X11_passes hm T hM hT _) hm.1 (hm.k (by decide)) ⟨rfl, rfl⟩ rfl rfl rfl ?_
  refine cvI_X11_114 C dX11_pass_10 (c_X11_acted hm st (by rw [sv_o (by omega), mBegin, cpR_o (by omega)]; exact hst) hst4 _) hm.1 (hm.k (by decide)) ⟨rfl, rfl⟩ rfl rfl rfl ?_
  exact hE _ _ _ _ dX11_pass_13 (by unfold mDone; constructor <;> split <;> rfl)
set_option maxRecDepth 100000 in
set_option maxHeartbeats 4000000 in
theorem c_X11_set {g : mG} {l : Launch} {tpl : mT} {b n : Nat} {v : mV} {σ : Nat → Int32} (hm : isM g tpl b n) (hI : MI σ) (st : Nat) (hst : v 0 4 = nI st) (hst4 : st ≤ 4) (x y : Int32) : CT g l tpl b n yX11_set cX11_set 3 (some .int) rm_X11_set [.ref (b + 0), .int x, .int y] (sv v σ) (pI (mDone v σ st (mSets σ x y)).1 (mDone v σ st (mSets σ x y)).2) := by
  refine CT.introI [some (.ref (b + 0)), some (.int x), some (.int y)] (own := RX11) (by decide +kernel) rfl rfl rfl rfl ?_
  intro p e s m args below meth c Q C hE
  refine r_aload_n C dX11_set_0 rfl ?_
  refine cvV_X11_108 C dX11_set_1 (c_X11_begins hm) hm.1 (hm.k (by decide)) ⟨rfl, rfl⟩ rfl rfl rfl ?_
  refine r_aload_n C dX11_set_4 rfl ?_
  refine r_aload_n C dX11_set_5 rfl ?_
  refine r_iload_n C dX11_set_6 rfl ?_
  refine r_iload_n C dX11_set_7 rfl ?_
  refine cvI_X11_148 C dX11_set_8 (c_X11_sets hm hI _ _) hm.1 (hm.k (by decide)) ⟨rfl, rfl⟩ rfl rfl rfl ?_
  refine cvI_X11_114 C dX11_set_11 (c_X11_acted hm st (by rw [sv_o (by omega), mBegin, cpR_o (by omega)]; exact hst) hst4 _) hm.1 (hm.k (by decide)) ⟨rfl, rfl⟩ rfl rfl rfl ?_
  exact hE _ _ _ _ dX11_set_14 (by unfold mDone; constructor <;> split <;> rfl)
