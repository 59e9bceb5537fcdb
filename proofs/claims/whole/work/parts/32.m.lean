/-! ===== the reference: paging ===== -/
theorem mPerson_or {σ : Nat → Int32} (hI : MI σ) {t lv : Int32} {T l : Nat} (hT : T ≤ 100000) (et : t = nI T) (hl : l ≤ 100000) (el : lv = nI l) : mPerson σ t lv = -1 ∨ ∃ p, p < 8 ∧ mPerson σ t lv = nI p := by
  unfold mPerson
  split
  · exact Or.inl rfl
  · rename_i h0
    obtain ⟨j, hj, ej, ⟨sh, h1, h2, esh⟩, mm, m1, m5, em⟩ := mRegion_pos hI h0
    obtain ⟨O, hO, eO⟩ := hI.2.2.2.1
    have hf : (if lv = 0 then mStLp σ (mRegion σ t) t (σ 15).toNatClampNeg 0 (-1) else -1) = -1 ∨ ∃ p, p < 8 ∧ (if lv = 0 then mStLp σ (mRegion σ t) t (σ 15).toNatClampNeg 0 (-1) else -1) = nI p := by
      split
      · rw [eO, nI_clamp (show O < 2 ^ 31 by omega)]
        exact mStLp_or hI.2.2.2.2.2.2.1 _ _ O 0 (-1) (by omega) (Or.inl rfl)
      · exact Or.inl rfl
    revert hf
    generalize (if lv = 0 then mStLp σ (mRegion σ t) t (σ 15).toNatClampNeg 0 (-1) else -1) = f
    intro hf
    split
    · have ep : mPlace σ j t lv = nI ((T / 60 / sh + l) % mm) := by
        unfold mPlace
        rw [esh, em]
        exact mPlace_of hT et hl el h1 h2 m1 m5
      have hpm : (T / 60 / sh + l) % mm < 5 := Nat.lt_of_lt_of_le (Nat.mod_lt _ m1) m5
      rw [ej, nI_clamp (show j < 2 ^ 31 by omega), ep, nI_clamp (show (T / 60 / sh + l) % mm < 2 ^ 31 by omega)]
      exact Or.inr (hI.2.2.2.2.2.1 j _ hj hpm)
    · exact hf
theorem mRegLp_congr {σ τ : Nat → Int32} (h : ∀ q, q < 101 → σ q = τ q) (hr : Int32) : ∀ (r i : Nat), i + r ≤ 3 → mRegLp σ hr r i = mRegLp τ hr r i
  | 0, _, _ => rfl
  | r + 1, i, hi => by
    unfold mRegLp
    rw [h _ (by omega), h _ (by omega), h _ (by omega), mRegLp_congr h hr r (i + 1) (by omega)]
theorem mRegion_congr {σ τ : Nat → Int32} (h : ∀ q, q < 101 → σ q = τ q) (hR : ∃ R, R ≤ 3 ∧ τ 1 = nI R) (t : Int32) : mRegion σ t = mRegion τ t := by
  obtain ⟨R, h1, h2⟩ := hR
  unfold mRegion
  rw [h 1 (by omega), h2, nI_clamp (show R < 2 ^ 31 by omega)]
  exact mRegLp_congr h _ R 0 (by omega)
theorem MI_free {s : Nat → Int32} {j : Nat} {x : Int32} (hI : MI s) (h1 : j ≠ 0 ∧ j ≠ 1 ∧ j ≠ 2 ∧ j ≠ 15) (h2 : j < 56 ∨ (101 ≤ j ∧ (j - 101) % 16 ≠ 3 ∧ (j - 101) % 16 ≠ 4)) : MI (upd s j x) := by
  obtain ⟨⟨P, p1, p2⟩, ⟨R, r1, r2, r3⟩, ⟨T, t1, t2, t3⟩, ⟨O, o1, o2⟩, a, b, c, d⟩ := hI
  refine ⟨⟨P, p1, by rw [upd_o (by omega)]; exact p2⟩, ⟨R, r1, by rw [upd_o (by omega)]; exact r2, fun k hk => ?_⟩, ⟨T, t1, by rw [upd_o (by omega)]; exact t2, fun i hi => ?_⟩, ⟨O, o1, by rw [upd_o (by omega)]; exact o2⟩, fun k hk => ?_, fun k j2 hk hj => ?_, fun k hk => ?_, fun i hi => ?_⟩
  · rw [upd_o (by omega)]; exact r3 k hk
  · rw [upd_o (by omega)]; exact t3 i hi
  · rw [upd_o (by omega)]; exact a k hk
  · rw [upd_o (by omega)]; exact b k j2 hk hj
  · rw [upd_o (by omega)]; exact c k hk
  · rw [upd_o (by omega)]; exact d i hi
theorem MI_own {s : Nat → Int32} {i0 w : Nat} (hI : MI s) (hw : w ≤ 8) : MI (upd s (101 + 16 * i0 + 4) (nI w)) := by
  obtain ⟨⟨P, p1, p2⟩, ⟨R, r1, r2, r3⟩, ⟨T, t1, t2, t3⟩, ⟨O, o1, o2⟩, a, b, c, d⟩ := hI
  refine ⟨⟨P, p1, by rw [upd_o (by omega)]; exact p2⟩, ⟨R, r1, by rw [upd_o (by omega)]; exact r2, fun k hk => ?_⟩, ⟨T, t1, by rw [upd_o (by omega)]; exact t2, fun i hi => ?_⟩, ⟨O, o1, by rw [upd_o (by omega)]; exact o2⟩, fun k hk => ?_, fun k j2 hk hj => ?_, fun k hk => ?_, fun i hi => ?_⟩
  · rw [upd_o (by omega)]; exact r3 k hk
  · rw [upd_o (by omega)]; exact t3 i hi
  · rw [upd_o (by omega)]; exact a k hk
  · rw [upd_o (by omega)]; exact b k j2 hk hj
  · rw [upd_o (by omega)]; exact c k hk
  · by_cases h : i = i0
    · subst h
      rw [upd_r]
      exact ⟨w, hw, rfl⟩
    · rw [upd_o (by omega)]; exact d i hi
theorem MI_lvl {s : Nat → Int32} {i0 l : Nat} (hI : MI s) (hl : l ≤ 70000) : MI (upd s (101 + 16 * i0 + 3) (nI l)) := by
  obtain ⟨⟨P, p1, p2⟩, ⟨R, r1, r2, r3⟩, ⟨T, t1, t2, t3⟩, ⟨O, o1, o2⟩, a, b, c, d⟩ := hI
  refine ⟨⟨P, p1, by rw [upd_o (by omega)]; exact p2⟩, ⟨R, r1, by rw [upd_o (by omega)]; exact r2, fun k hk => ?_⟩, ⟨T, t1, by rw [upd_o (by omega)]; exact t2, fun i hi => ?_⟩, ⟨O, o1, by rw [upd_o (by omega)]; exact o2⟩, fun k hk => ?_, fun k j2 hk hj => ?_, fun k hk => ?_, fun i hi => ?_⟩
  · rw [upd_o (by omega)]; exact r3 k hk
  · by_cases h : i = i0
    · subst h
      rw [upd_r]
      exact ⟨l, hl, rfl⟩
    · rw [upd_o (by omega)]; exact t3 i hi
  · rw [upd_o (by omega)]; exact a k hk
  · rw [upd_o (by omega)]; exact b k j2 hk hj
  · rw [upd_o (by omega)]; exact c k hk
  · rw [upd_o (by omega)]; exact d i hi
def mNone (σ : Nat → Int32) (i : Nat) (w : Int32) : Int32 := if w < 0 then 1 else if σ (101 + 16 * i + 2) = 0 then (if fHas (σ (16 + 5 * w.toNatClampNeg)) (σ (16 + 5 * w.toNatClampNeg + 1)) (fHour (σ 2)) = 0 then 0 else if mExc σ w.toNatClampNeg (σ (101 + 16 * i + 1)) = 0 then 1 else 0) else 0
def mPage3 (σ : Nat → Int32) (i : Nat) (o : Int32) : Nat → Int32 := upd (upd (upd σ (101 + 16 * i + 4) o) (101 + 16 * i + 5) 0) (101 + 16 * i + 11) (mRegion σ (σ 2))
def mPageW (σ : Nat → Int32) (i : Nat) (w : Int32) : Nat → Int32 :=
  if mNone σ i w = 0 then upd (upd (upd (upd (mPage3 σ i (w + 1)) (101 + 16 * i + 10) (σ 2)) (101 + 16 * i + 14) 1) 5 (σ 5 + 1)) (16 + 5 * w.toNatClampNeg + 3) (σ (16 + 5 * w.toNatClampNeg + 3) + 1) else mPage3 σ i 0
def mPage (σ : Nat → Int32) (i : Nat) : Nat → Int32 := mPageW σ i (mPerson σ (σ 2) (σ (101 + 16 * i + 3)))
def mMinA (σ : Nat → Int32) (i : Nat) (d : Int32) : Nat → Int32 := upd (upd σ (101 + 16 * i + 9) (σ (101 + 16 * i + 9) + d)) 9 (σ 9 + d)
def mHand (σ : Nat → Int32) (i : Nat) : Nat → Int32 := upd (upd (upd (mMinA σ i 0) (101 + 16 * i + 3) 0) (101 + 16 * i + 12) (σ (101 + 16 * i + 12) + 1)) 7 (σ 7 + 1)
def mEsc (σ : Nat → Int32) (i : Nat) : Nat → Int32 := upd (upd (upd (mMinA σ i 0) (101 + 16 * i + 3) (σ (101 + 16 * i + 3) + 1)) (101 + 16 * i + 13) (σ (101 + 16 * i + 13) + 1)) 8 (σ 8 + 1)
def mMinOf (σ : Nat → Int32) (i : Nat) : Nat → Int32 :=
  if 0 < σ (101 + 16 * i + 4) then (if mRegion σ (σ 2) < 0 then mPage (mHand σ i) i else if mRegion σ (σ 2) = σ (101 + 16 * i + 11) then
    (if σ (101 + 16 * i + 5) = 0 then (if σ 2 - σ (101 + 16 * i + 10) < σ 13 then mMinA σ i 0 else mPage (mEsc σ i) i) else mMinA σ i 0) else mPage (mHand σ i) i)
  else mPage (mMinA σ i 1) i
def mMinLp : Nat → Nat → (Nat → Int32) → Nat → Int32
  | 0, _, σ => σ
  | r + 1, i, σ => if mInc σ (nI i) = 0 then mMinLp r (i + 1) σ else mMinLp r (i + 1) (mMinOf σ i)
def mMinute (σ : Nat → Int32) : Nat → Int32 := mMinLp 8 0 (upd σ 2 (σ 2 + 1))
set_option maxRecDepth 100000 in
set_option maxHeartbeats 4000000 in
theorem c_X11_isQuiet {g : mG} {l : Launch} {tpl : mT} {b n : Nat} {v : mV} {σ : Nat → Int32} (hm : isM g tpl b n) (x y : Int32) (i : Nat) (hx : x = nI i) (hi : i < 8) : CT g l tpl b n yX11_isQuiet cX11_isQuiet 3 (some .boolean) rm_X11_isQuiet [.ref (b + 0), .int x, .int y] (sv v σ) (pI (fHas (σ (16 + 5 * i)) (σ (16 + 5 * i + 1)) (fHour y)) (sv v σ)) := by
  refine CT.introZ [some (.ref (b + 0)), some (.int x), some (.int y)] (own := RX11) (by decide +kernel) rfl rfl rfl rfl ?_
  intro p e s m args below meth c Q C hE
  refine r_iload_n C dX11_isQuiet_0 rfl ?_
  refine r_bipush C dX11_isQuiet_1 bp_60 ?_
  refine r_idiv C dX11_isQuiet_3 (by decide) ?_
  refine r_bipush C dX11_isQuiet_4 bp_24 ?_
  refine r_irem C dX11_isQuiet_6 (by decide) ?_
  refine r_aload_n C dX11_isQuiet_7 rfl ?_
  refine r_iload_n C dX11_isQuiet_8 rfl ?_
  refine r_iconst C dX11_isQuiet_9 ic_0 ?_
  refine cvI_X11_54 C dX11_isQuiet_10 (c_X11_ofWho hm _ _ i 0 hx kn_0 (by omega)) hm.1 (hm.k (by decide)) ⟨rfl, rfl⟩ rfl rfl rfl ?_
  refine r_aload_n C dX11_isQuiet_13 rfl ?_
  refine r_iload_n C dX11_isQuiet_14 rfl ?_
  refine r_iconst C dX11_isQuiet_15 ic_1 ?_
  refine cvI_X11_54 C dX11_isQuiet_16 (c_X11_ofWho hm _ _ i 1 hx kn_1 (by omega)) hm.1 (hm.k (by decide)) ⟨rfl, rfl⟩ rfl rfl rfl ?_
  refine cvI_X11_44 C dX11_isQuiet_19 (c_X11_isWithin _ _ _) ⟨rfl, rfl⟩ rfl rfl rfl ?_
  exact hE _ _ _ _ (nar_b (fHas_01 _ _ _)) dX11_isQuiet_22 (And.intro rfl rfl)
set_option maxRecDepth 100000 in
set_option maxHeartbeats 4000000 in
theorem c_X11_isException {g : mG} {l : Launch} {tpl : mT} {b n : Nat} {v : mV} {σ : Nat → Int32} (hm : isM g tpl b n) (x y : Int32) (i : Nat) (hx : x = nI i) (hi : i < 8) : CT g l tpl b n yX11_isException cX11_isException 3 (some .boolean) rm_X11_isException [.ref (b + 0), .int x, .int y] (sv v σ) (pI (mExc σ i y) (sv v σ)) := by
  refine CT.introZ [some (.ref (b + 0)), some (.int x), some (.int y)] (own := RX11) (by decide +kernel) rfl rfl rfl rfl ?_
  intro p e s m args below meth c Q C hE
  refine r_aload_n C dX11_isException_0 rfl ?_
  refine r_iload_n C dX11_isException_1 rfl ?_
  refine r_iconst C dX11_isException_2 ic_2 ?_
  refine cvI_X11_54 C dX11_isException_3 (c_X11_ofWho hm _ _ i 2 hx kn_2 (by omega)) hm.1 (hm.k (by decide)) ⟨rfl, rfl⟩ rfl rfl rfl ?_
  refine r_iload_n C dX11_isException_6 rfl ?_
  refine r_ishr C dX11_isException_7 ?_
  refine r_iconst C dX11_isException_8 ic_1 ?_
  refine r_iand C dX11_isException_9 ?_
  refine r_iconst C dX11_isException_10 ic_1 ?_
  refine r_icmp_ne (tgt := 18) C dX11_isException_11 rfl (fun c_11 => ?_) (fun c_11 => ?_)
  · skip
    try simp (disch := omega) only [Nat.add_zero] at c_11
    refine r_iconst C dX11_isException_18 ic_0 ?_
    exact hE _ _ _ _ (nar_b (Or.inl rfl)) dX11_isException_19 (by simp [pI, mExc, c_11])
  · skip
    try simp (disch := omega) only [Nat.add_zero] at c_11
    refine r_iconst C dX11_isException_14 ic_1 ?_
    refine r_goto (tgt := 19) C dX11_isException_15 rfl ?_
    exact hE _ _ _ _ (nar_b (Or.inr rfl)) dX11_isException_19 (by simp [pI, mExc, c_11])
set_option maxRecDepth 100000 in
set_option maxHeartbeats 4000000 in
theorem c_X11_pages {g : mG} {l : Launch} {tpl : mT} {b n : Nat} {v : mV} {σ : Nat → Int32} (hm : isM g tpl b n) (hI : MI σ) (i : Nat) (hi : i < 8) : CT g l tpl b n yX11_pages cX11_pages 5 none rm_X11_pages [.ref (b + 0), .int (nI i)] (sv v σ) (pV (sv v (mPage σ i))) := by
  refine CT.introV [some (.ref (b + 0)), some (.int (nI i)), none, none, none] (own := RX11) (by decide +kernel) rfl rfl rfl rfl ?_
  intro p e s m args below meth c Q C hE
  refine r_iload_n C dX11_pages_0 rfl ?_
  refine cvI_X11_36 C dX11_pages_1 (c_X11_incidentAt _) ⟨rfl, rfl⟩ rfl rfl rfl ?_
  refine r_istore_n C dX11_pages_4 rfl rfl ?_
  obtain ⟨T, hT, eT, hlv⟩ := hI.2.2.1
  obtain ⟨l0, hl0, el⟩ := hlv i hi
  refine r_aload_n C dX11_pages_5 rfl ?_
  refine r_aload_n C dX11_pages_6 rfl ?_
  refine gf_X11_7 C dX11_pages_7 hm.1 (hm.k (by decide)) ?_
  refine r_iconst C dX11_pages_10 ic_2 ?_
  refine r_sld C dX11_pages_11 hm (j := 2) kn_2 (by omega) ?_
  refine r_aload_n C dX11_pages_12 rfl ?_
  refine gf_X11_7 C dX11_pages_13 hm.1 (hm.k (by decide)) ?_
  refine r_iload_n C dX11_pages_16 rfl ?_
  refine r_iconst C dX11_pages_17 ic_3 ?_
  refine r_iadd C dX11_pages_18 ?_
  refine r_sld C dX11_pages_19 hm (j := ((101 + 16 * i) + 3)) (na_add (na_add kn_101 (na_mul kn_16 rfl)) kn_3) (by omega) ?_
  refine cvI_X11_57 C dX11_pages_20 (c_X11_personAt hm hI _ _ T (by omega) eT l0 (by omega) el) hm.1 (hm.k (by decide)) ⟨rfl, rfl⟩ rfl rfl rfl ?_
  have hw : mPerson σ (σ 2) (σ (101 + 16 * i + 3)) = -1 ∨ ∃ q, q < 8 ∧ mPerson σ (σ 2) (σ (101 + 16 * i + 3)) = nI q := mPerson_or hI (by omega) eT (by omega) el
  have hPg : mPage σ i = mPageW σ i (mPerson σ (σ 2) (σ (101 + 16 * i + 3))) := rfl
  revert hw hPg
  generalize mPerson σ (σ 2) (σ (101 + 16 * i + 3)) = w
  intro hw hPg
  refine r_istore_n C dX11_pages_23 rfl rfl ?_
  refine r_iload_n C dX11_pages_24 rfl ?_
  refine r_if_lt (tgt := 69) C dX11_pages_25 rfl (fun c_25 => ?_) (fun c_25 => ?_)
  · skip
    refine r_iconst C dX11_pages_69 ic_1 ?_
    refine r_goto (tgt := 74) C dX11_pages_70 rfl ?_
    refine r_istore C dX11_pages_74 rfl rfl ?_
    refine r_aload_n C dX11_pages_76 rfl ?_
    refine gf_X11_7 C dX11_pages_77 hm.1 (hm.k (by decide)) ?_
    refine r_iload_n C dX11_pages_80 rfl ?_
    refine r_iconst C dX11_pages_81 ic_4 ?_
    refine r_iadd C dX11_pages_82 ?_
    refine r_iload C dX11_pages_83 rfl ?_
    refine r_if_eq (tgt := 92) C dX11_pages_85 rfl (fun c_85 => ?_) (fun c_85 => ?_)
    · exact absurd c_85 (by decide)
    · skip
      refine r_iconst C dX11_pages_88 ic_0 ?_
      refine r_goto (tgt := 95) C dX11_pages_89 rfl ?_
      refine r_sst C dX11_pages_95 hm (j := ((101 + 16 * i) + 4)) (na_add (na_add kn_101 (na_mul kn_16 rfl)) kn_4) (by omega) ?_
      refine r_aload_n C dX11_pages_96 rfl ?_
      refine gf_X11_7 C dX11_pages_97 hm.1 (hm.k (by decide)) ?_
      refine r_iload_n C dX11_pages_100 rfl ?_
      refine r_iconst C dX11_pages_101 ic_5 ?_
      refine r_iadd C dX11_pages_102 ?_
      refine r_iconst C dX11_pages_103 ic_0 ?_
      refine r_sst C dX11_pages_104 hm (j := ((101 + 16 * i) + 5)) (na_add (na_add kn_101 (na_mul kn_16 rfl)) kn_5) (by omega) ?_
      refine r_aload_n C dX11_pages_105 rfl ?_
      refine gf_X11_7 C dX11_pages_106 hm.1 (hm.k (by decide)) ?_
      refine r_iload_n C dX11_pages_109 rfl ?_
      refine r_bipush C dX11_pages_110 bp_11 ?_
      refine r_iadd C dX11_pages_112 ?_
      refine r_aload_n C dX11_pages_113 rfl ?_
      refine r_aload_n C dX11_pages_114 rfl ?_
      refine gf_X11_7 C dX11_pages_115 hm.1 (hm.k (by decide)) ?_
      refine r_iconst C dX11_pages_118 ic_2 ?_
      refine r_sld C dX11_pages_119 hm (j := 2) kn_2 (by omega) ?_
      refine cvI_X11_51 C dX11_pages_120 (c_X11_regionAt hm (by obtain ⟨R, r1, r2⟩ := MI_R hI; exact ⟨R, r1, by rw [upd_o (by omega), upd_o (by omega)]; exact r2⟩) _) hm.1 (hm.k (by decide)) ⟨rfl, rfl⟩ rfl rfl rfl ?_
      rw [mRegion_congr (fun q hq => by rw [upd_o (by omega), upd_o (by omega)]) (MI_R hI), show (upd (upd σ _ _) _ _ : Nat → Int32) 2 = σ 2 by rw [upd_o (by omega), upd_o (by omega)]]
      refine r_sst C dX11_pages_123 hm (j := ((101 + 16 * i) + 11)) (na_add (na_add kn_101 (na_mul kn_16 rfl)) kn_11) (by omega) ?_
      refine r_iload C dX11_pages_124 rfl ?_
      refine r_if_ne (tgt := 181) C dX11_pages_126 rfl (fun c_126 => ?_) (fun c_126 => ?_)
      · skip
        exact hE _ _ _ dX11_pages_181 (And.intro rfl (by rw [hPg, mPageW]; simp (disch := omega) [mNone, mPage3, c_25, upd_o]))
      · exact absurd c_126 (by decide)
  · skip
    obtain ⟨q, hq, rfl⟩ := hw.resolve_left (fun z => c_25 (by rw [z]; decide))
    have nq : (nI q).toNatClampNeg = q := nI_clamp (by omega)
    refine r_aload_n C dX11_pages_28 rfl ?_
    refine gf_X11_7 C dX11_pages_29 hm.1 (hm.k (by decide)) ?_
    refine r_iload_n C dX11_pages_32 rfl ?_
    refine r_iconst C dX11_pages_33 ic_2 ?_
    refine r_iadd C dX11_pages_34 ?_
    refine r_sld C dX11_pages_35 hm (j := ((101 + 16 * i) + 2)) (na_add (na_add kn_101 (na_mul kn_16 rfl)) kn_2) (by omega) ?_
    refine r_if_ne (tgt := 73) C dX11_pages_36 rfl (fun c_36 => ?_) (fun c_36 => ?_)
    · skip
      refine r_iconst C dX11_pages_73 ic_0 ?_
      refine r_istore C dX11_pages_74 rfl rfl ?_
      refine r_aload_n C dX11_pages_76 rfl ?_
      refine gf_X11_7 C dX11_pages_77 hm.1 (hm.k (by decide)) ?_
      refine r_iload_n C dX11_pages_80 rfl ?_
      refine r_iconst C dX11_pages_81 ic_4 ?_
      refine r_iadd C dX11_pages_82 ?_
      refine r_iload C dX11_pages_83 rfl ?_
      refine r_if_eq (tgt := 92) C dX11_pages_85 rfl (fun c_85 => ?_) (fun c_85 => ?_)
      · skip
        refine r_iload_n C dX11_pages_92 rfl ?_
        refine r_iconst C dX11_pages_93 ic_1 ?_
        refine r_iadd C dX11_pages_94 ?_
        refine r_sst C dX11_pages_95 hm (j := ((101 + 16 * i) + 4)) (na_add (na_add kn_101 (na_mul kn_16 rfl)) kn_4) (by omega) ?_
        refine r_aload_n C dX11_pages_96 rfl ?_
        refine gf_X11_7 C dX11_pages_97 hm.1 (hm.k (by decide)) ?_
        refine r_iload_n C dX11_pages_100 rfl ?_
        refine r_iconst C dX11_pages_101 ic_5 ?_
        refine r_iadd C dX11_pages_102 ?_
        refine r_iconst C dX11_pages_103 ic_0 ?_
        refine r_sst C dX11_pages_104 hm (j := ((101 + 16 * i) + 5)) (na_add (na_add kn_101 (na_mul kn_16 rfl)) kn_5) (by omega) ?_
        refine r_aload_n C dX11_pages_105 rfl ?_
        refine gf_X11_7 C dX11_pages_106 hm.1 (hm.k (by decide)) ?_
        refine r_iload_n C dX11_pages_109 rfl ?_
        refine r_bipush C dX11_pages_110 bp_11 ?_
        refine r_iadd C dX11_pages_112 ?_
        refine r_aload_n C dX11_pages_113 rfl ?_
        refine r_aload_n C dX11_pages_114 rfl ?_
        refine gf_X11_7 C dX11_pages_115 hm.1 (hm.k (by decide)) ?_
        refine r_iconst C dX11_pages_118 ic_2 ?_
        refine r_sld C dX11_pages_119 hm (j := 2) kn_2 (by omega) ?_
        refine cvI_X11_51 C dX11_pages_120 (c_X11_regionAt hm (by obtain ⟨R, r1, r2⟩ := MI_R hI; exact ⟨R, r1, by rw [upd_o (by omega), upd_o (by omega)]; exact r2⟩) _) hm.1 (hm.k (by decide)) ⟨rfl, rfl⟩ rfl rfl rfl ?_
        rw [mRegion_congr (fun q hq => by rw [upd_o (by omega), upd_o (by omega)]) (MI_R hI), show (upd (upd σ _ _) _ _ : Nat → Int32) 2 = σ 2 by rw [upd_o (by omega), upd_o (by omega)]]
        refine r_sst C dX11_pages_123 hm (j := ((101 + 16 * i) + 11)) (na_add (na_add kn_101 (na_mul kn_16 rfl)) kn_11) (by omega) ?_
        refine r_iload C dX11_pages_124 rfl ?_
        refine r_if_ne (tgt := 181) C dX11_pages_126 rfl (fun c_126 => ?_) (fun c_126 => ?_)
        · exact absurd c_126 (by decide)
        · skip
          refine r_aload_n C dX11_pages_129 rfl ?_
          refine gf_X11_7 C dX11_pages_130 hm.1 (hm.k (by decide)) ?_
          refine r_iload_n C dX11_pages_133 rfl ?_
          refine r_bipush C dX11_pages_134 bp_10 ?_
          refine r_iadd C dX11_pages_136 ?_
          refine r_aload_n C dX11_pages_137 rfl ?_
          refine gf_X11_7 C dX11_pages_138 hm.1 (hm.k (by decide)) ?_
          refine r_iconst C dX11_pages_141 ic_2 ?_
          refine r_sld C dX11_pages_142 hm (j := 2) kn_2 (by omega) ?_
          refine r_sst C dX11_pages_143 hm (j := ((101 + 16 * i) + 10)) (na_add (na_add kn_101 (na_mul kn_16 rfl)) kn_10) (by omega) ?_
          refine r_aload_n C dX11_pages_144 rfl ?_
          refine gf_X11_7 C dX11_pages_145 hm.1 (hm.k (by decide)) ?_
          refine r_iload_n C dX11_pages_148 rfl ?_
          refine r_bipush C dX11_pages_149 bp_14 ?_
          refine r_iadd C dX11_pages_151 ?_
          refine r_iconst C dX11_pages_152 ic_1 ?_
          refine r_sst C dX11_pages_153 hm (j := ((101 + 16 * i) + 14)) (na_add (na_add kn_101 (na_mul kn_16 rfl)) kn_14) (by omega) ?_
          refine r_aload_n C dX11_pages_154 rfl ?_
          refine gf_X11_7 C dX11_pages_155 hm.1 (hm.k (by decide)) ?_
          refine r_iconst C dX11_pages_158 ic_5 ?_
          refine r_dup2 C dX11_pages_159 rfl rfl ?_
          refine r_sld C dX11_pages_160 hm (j := 5) kn_5 (by omega) ?_
          refine r_iconst C dX11_pages_161 ic_1 ?_
          refine r_iadd C dX11_pages_162 ?_
          refine r_sst C dX11_pages_163 hm (j := 5) kn_5 (by omega) ?_
          refine r_aload_n C dX11_pages_164 rfl ?_
          refine gf_X11_7 C dX11_pages_165 hm.1 (hm.k (by decide)) ?_
          refine r_bipush C dX11_pages_168 bp_16 ?_
          refine r_iconst C dX11_pages_170 ic_5 ?_
          refine r_iload_n C dX11_pages_171 rfl ?_
          refine r_imul C dX11_pages_172 ?_
          refine r_iadd C dX11_pages_173 ?_
          refine r_iconst C dX11_pages_174 ic_3 ?_
          refine r_iadd C dX11_pages_175 ?_
          refine r_dup2 C dX11_pages_176 rfl rfl ?_
          refine r_sld C dX11_pages_177 hm (j := ((16 + (5 * q)) + 3)) (na_add (na_add kn_16 (na_mul kn_5 rfl)) kn_3) (by omega) ?_
          refine r_iconst C dX11_pages_178 ic_1 ?_
          refine r_iadd C dX11_pages_179 ?_
          refine r_sst C dX11_pages_180 hm (j := ((16 + (5 * q)) + 3)) (na_add (na_add kn_16 (na_mul kn_5 rfl)) kn_3) (by omega) ?_
          exact hE _ _ _ dX11_pages_181 (And.intro rfl (by rw [hPg, mPageW]; simp (disch := omega) [mNone, mPage3, c_25, nq, c_36, upd_o]))
      · exact absurd c_85 (by decide)
    · skip
      refine r_aload_n C dX11_pages_39 rfl ?_
      refine r_iload_n C dX11_pages_40 rfl ?_
      refine r_aload_n C dX11_pages_41 rfl ?_
      refine gf_X11_7 C dX11_pages_42 hm.1 (hm.k (by decide)) ?_
      refine r_iconst C dX11_pages_45 ic_2 ?_
      refine r_sld C dX11_pages_46 hm (j := 2) kn_2 (by omega) ?_
      refine cvI_X11_60 C dX11_pages_47 (c_X11_isQuiet hm _ _ q rfl (by omega)) hm.1 (hm.k (by decide)) ⟨rfl, rfl⟩ rfl rfl rfl ?_
      refine r_if_eq (tgt := 73) C dX11_pages_50 rfl (fun c_50 => ?_) (fun c_50 => ?_)
      · skip
        refine r_iconst C dX11_pages_73 ic_0 ?_
        refine r_istore C dX11_pages_74 rfl rfl ?_
        refine r_aload_n C dX11_pages_76 rfl ?_
        refine gf_X11_7 C dX11_pages_77 hm.1 (hm.k (by decide)) ?_
        refine r_iload_n C dX11_pages_80 rfl ?_
        refine r_iconst C dX11_pages_81 ic_4 ?_
        refine r_iadd C dX11_pages_82 ?_
        refine r_iload C dX11_pages_83 rfl ?_
        refine r_if_eq (tgt := 92) C dX11_pages_85 rfl (fun c_85 => ?_) (fun c_85 => ?_)
        · skip
          refine r_iload_n C dX11_pages_92 rfl ?_
          refine r_iconst C dX11_pages_93 ic_1 ?_
          refine r_iadd C dX11_pages_94 ?_
          refine r_sst C dX11_pages_95 hm (j := ((101 + 16 * i) + 4)) (na_add (na_add kn_101 (na_mul kn_16 rfl)) kn_4) (by omega) ?_
          refine r_aload_n C dX11_pages_96 rfl ?_
          refine gf_X11_7 C dX11_pages_97 hm.1 (hm.k (by decide)) ?_
          refine r_iload_n C dX11_pages_100 rfl ?_
          refine r_iconst C dX11_pages_101 ic_5 ?_
          refine r_iadd C dX11_pages_102 ?_
          refine r_iconst C dX11_pages_103 ic_0 ?_
          refine r_sst C dX11_pages_104 hm (j := ((101 + 16 * i) + 5)) (na_add (na_add kn_101 (na_mul kn_16 rfl)) kn_5) (by omega) ?_
          refine r_aload_n C dX11_pages_105 rfl ?_
          refine gf_X11_7 C dX11_pages_106 hm.1 (hm.k (by decide)) ?_
          refine r_iload_n C dX11_pages_109 rfl ?_
          refine r_bipush C dX11_pages_110 bp_11 ?_
          refine r_iadd C dX11_pages_112 ?_
          refine r_aload_n C dX11_pages_113 rfl ?_
          refine r_aload_n C dX11_pages_114 rfl ?_
          refine gf_X11_7 C dX11_pages_115 hm.1 (hm.k (by decide)) ?_
          refine r_iconst C dX11_pages_118 ic_2 ?_
          refine r_sld C dX11_pages_119 hm (j := 2) kn_2 (by omega) ?_
          refine cvI_X11_51 C dX11_pages_120 (c_X11_regionAt hm (by obtain ⟨R, r1, r2⟩ := MI_R hI; exact ⟨R, r1, by rw [upd_o (by omega), upd_o (by omega)]; exact r2⟩) _) hm.1 (hm.k (by decide)) ⟨rfl, rfl⟩ rfl rfl rfl ?_
          rw [mRegion_congr (fun q hq => by rw [upd_o (by omega), upd_o (by omega)]) (MI_R hI), show (upd (upd σ _ _) _ _ : Nat → Int32) 2 = σ 2 by rw [upd_o (by omega), upd_o (by omega)]]
          refine r_sst C dX11_pages_123 hm (j := ((101 + 16 * i) + 11)) (na_add (na_add kn_101 (na_mul kn_16 rfl)) kn_11) (by omega) ?_
          refine r_iload C dX11_pages_124 rfl ?_
          refine r_if_ne (tgt := 181) C dX11_pages_126 rfl (fun c_126 => ?_) (fun c_126 => ?_)
          · exact absurd c_126 (by decide)
          · skip
            refine r_aload_n C dX11_pages_129 rfl ?_
            refine gf_X11_7 C dX11_pages_130 hm.1 (hm.k (by decide)) ?_
            refine r_iload_n C dX11_pages_133 rfl ?_
            refine r_bipush C dX11_pages_134 bp_10 ?_
            refine r_iadd C dX11_pages_136 ?_
            refine r_aload_n C dX11_pages_137 rfl ?_
            refine gf_X11_7 C dX11_pages_138 hm.1 (hm.k (by decide)) ?_
            refine r_iconst C dX11_pages_141 ic_2 ?_
            refine r_sld C dX11_pages_142 hm (j := 2) kn_2 (by omega) ?_
            refine r_sst C dX11_pages_143 hm (j := ((101 + 16 * i) + 10)) (na_add (na_add kn_101 (na_mul kn_16 rfl)) kn_10) (by omega) ?_
            refine r_aload_n C dX11_pages_144 rfl ?_
            refine gf_X11_7 C dX11_pages_145 hm.1 (hm.k (by decide)) ?_
            refine r_iload_n C dX11_pages_148 rfl ?_
            refine r_bipush C dX11_pages_149 bp_14 ?_
            refine r_iadd C dX11_pages_151 ?_
            refine r_iconst C dX11_pages_152 ic_1 ?_
            refine r_sst C dX11_pages_153 hm (j := ((101 + 16 * i) + 14)) (na_add (na_add kn_101 (na_mul kn_16 rfl)) kn_14) (by omega) ?_
            refine r_aload_n C dX11_pages_154 rfl ?_
            refine gf_X11_7 C dX11_pages_155 hm.1 (hm.k (by decide)) ?_
            refine r_iconst C dX11_pages_158 ic_5 ?_
            refine r_dup2 C dX11_pages_159 rfl rfl ?_
            refine r_sld C dX11_pages_160 hm (j := 5) kn_5 (by omega) ?_
            refine r_iconst C dX11_pages_161 ic_1 ?_
            refine r_iadd C dX11_pages_162 ?_
            refine r_sst C dX11_pages_163 hm (j := 5) kn_5 (by omega) ?_
            refine r_aload_n C dX11_pages_164 rfl ?_
            refine gf_X11_7 C dX11_pages_165 hm.1 (hm.k (by decide)) ?_
            refine r_bipush C dX11_pages_168 bp_16 ?_
            refine r_iconst C dX11_pages_170 ic_5 ?_
            refine r_iload_n C dX11_pages_171 rfl ?_
            refine r_imul C dX11_pages_172 ?_
            refine r_iadd C dX11_pages_173 ?_
            refine r_iconst C dX11_pages_174 ic_3 ?_
            refine r_iadd C dX11_pages_175 ?_
            refine r_dup2 C dX11_pages_176 rfl rfl ?_
            refine r_sld C dX11_pages_177 hm (j := ((16 + (5 * q)) + 3)) (na_add (na_add kn_16 (na_mul kn_5 rfl)) kn_3) (by omega) ?_
            refine r_iconst C dX11_pages_178 ic_1 ?_
            refine r_iadd C dX11_pages_179 ?_
            refine r_sst C dX11_pages_180 hm (j := ((16 + (5 * q)) + 3)) (na_add (na_add kn_16 (na_mul kn_5 rfl)) kn_3) (by omega) ?_
            exact hE _ _ _ dX11_pages_181 (And.intro rfl (by rw [hPg, mPageW]; simp (disch := omega) [mNone, mPage3, c_25, nq, c_36, c_50, upd_o]))
        · exact absurd c_85 (by decide)
      · skip
        refine r_aload_n C dX11_pages_53 rfl ?_
        refine r_iload_n C dX11_pages_54 rfl ?_
        refine r_aload_n C dX11_pages_55 rfl ?_
        refine gf_X11_7 C dX11_pages_56 hm.1 (hm.k (by decide)) ?_
        refine r_iload_n C dX11_pages_59 rfl ?_
        refine r_iconst C dX11_pages_60 ic_1 ?_
        refine r_iadd C dX11_pages_61 ?_
        refine r_sld C dX11_pages_62 hm (j := ((101 + 16 * i) + 1)) (na_add (na_add kn_101 (na_mul kn_16 rfl)) kn_1) (by omega) ?_
        refine cvI_X11_63 C dX11_pages_63 (c_X11_isException hm _ _ q rfl (by omega)) hm.1 (hm.k (by decide)) ⟨rfl, rfl⟩ rfl rfl rfl ?_
        refine r_if_ne (tgt := 73) C dX11_pages_66 rfl (fun c_66 => ?_) (fun c_66 => ?_)
        · skip
          refine r_iconst C dX11_pages_73 ic_0 ?_
          refine r_istore C dX11_pages_74 rfl rfl ?_
          refine r_aload_n C dX11_pages_76 rfl ?_
          refine gf_X11_7 C dX11_pages_77 hm.1 (hm.k (by decide)) ?_
          refine r_iload_n C dX11_pages_80 rfl ?_
          refine r_iconst C dX11_pages_81 ic_4 ?_
          refine r_iadd C dX11_pages_82 ?_
          refine r_iload C dX11_pages_83 rfl ?_
          refine r_if_eq (tgt := 92) C dX11_pages_85 rfl (fun c_85 => ?_) (fun c_85 => ?_)
          · skip
            refine r_iload_n C dX11_pages_92 rfl ?_
            refine r_iconst C dX11_pages_93 ic_1 ?_
            refine r_iadd C dX11_pages_94 ?_
            refine r_sst C dX11_pages_95 hm (j := ((101 + 16 * i) + 4)) (na_add (na_add kn_101 (na_mul kn_16 rfl)) kn_4) (by omega) ?_
            refine r_aload_n C dX11_pages_96 rfl ?_
            refine gf_X11_7 C dX11_pages_97 hm.1 (hm.k (by decide)) ?_
            refine r_iload_n C dX11_pages_100 rfl ?_
            refine r_iconst C dX11_pages_101 ic_5 ?_
            refine r_iadd C dX11_pages_102 ?_
            refine r_iconst C dX11_pages_103 ic_0 ?_
            refine r_sst C dX11_pages_104 hm (j := ((101 + 16 * i) + 5)) (na_add (na_add kn_101 (na_mul kn_16 rfl)) kn_5) (by omega) ?_
            refine r_aload_n C dX11_pages_105 rfl ?_
            refine gf_X11_7 C dX11_pages_106 hm.1 (hm.k (by decide)) ?_
            refine r_iload_n C dX11_pages_109 rfl ?_
            refine r_bipush C dX11_pages_110 bp_11 ?_
            refine r_iadd C dX11_pages_112 ?_
            refine r_aload_n C dX11_pages_113 rfl ?_
            refine r_aload_n C dX11_pages_114 rfl ?_
            refine gf_X11_7 C dX11_pages_115 hm.1 (hm.k (by decide)) ?_
            refine r_iconst C dX11_pages_118 ic_2 ?_
            refine r_sld C dX11_pages_119 hm (j := 2) kn_2 (by omega) ?_
            refine cvI_X11_51 C dX11_pages_120 (c_X11_regionAt hm (by obtain ⟨R, r1, r2⟩ := MI_R hI; exact ⟨R, r1, by rw [upd_o (by omega), upd_o (by omega)]; exact r2⟩) _) hm.1 (hm.k (by decide)) ⟨rfl, rfl⟩ rfl rfl rfl ?_
            rw [mRegion_congr (fun q hq => by rw [upd_o (by omega), upd_o (by omega)]) (MI_R hI), show (upd (upd σ _ _) _ _ : Nat → Int32) 2 = σ 2 by rw [upd_o (by omega), upd_o (by omega)]]
            refine r_sst C dX11_pages_123 hm (j := ((101 + 16 * i) + 11)) (na_add (na_add kn_101 (na_mul kn_16 rfl)) kn_11) (by omega) ?_
            refine r_iload C dX11_pages_124 rfl ?_
            refine r_if_ne (tgt := 181) C dX11_pages_126 rfl (fun c_126 => ?_) (fun c_126 => ?_)
            · exact absurd c_126 (by decide)
            · skip
              refine r_aload_n C dX11_pages_129 rfl ?_
              refine gf_X11_7 C dX11_pages_130 hm.1 (hm.k (by decide)) ?_
              refine r_iload_n C dX11_pages_133 rfl ?_
              refine r_bipush C dX11_pages_134 bp_10 ?_
              refine r_iadd C dX11_pages_136 ?_
              refine r_aload_n C dX11_pages_137 rfl ?_
              refine gf_X11_7 C dX11_pages_138 hm.1 (hm.k (by decide)) ?_
              refine r_iconst C dX11_pages_141 ic_2 ?_
              refine r_sld C dX11_pages_142 hm (j := 2) kn_2 (by omega) ?_
              refine r_sst C dX11_pages_143 hm (j := ((101 + 16 * i) + 10)) (na_add (na_add kn_101 (na_mul kn_16 rfl)) kn_10) (by omega) ?_
              refine r_aload_n C dX11_pages_144 rfl ?_
              refine gf_X11_7 C dX11_pages_145 hm.1 (hm.k (by decide)) ?_
              refine r_iload_n C dX11_pages_148 rfl ?_
              refine r_bipush C dX11_pages_149 bp_14 ?_
              refine r_iadd C dX11_pages_151 ?_
              refine r_iconst C dX11_pages_152 ic_1 ?_
              refine r_sst C dX11_pages_153 hm (j := ((101 + 16 * i) + 14)) (na_add (na_add kn_101 (na_mul kn_16 rfl)) kn_14) (by omega) ?_
              refine r_aload_n C dX11_pages_154 rfl ?_
              refine gf_X11_7 C dX11_pages_155 hm.1 (hm.k (by decide)) ?_
              refine r_iconst C dX11_pages_158 ic_5 ?_
              refine r_dup2 C dX11_pages_159 rfl rfl ?_
              refine r_sld C dX11_pages_160 hm (j := 5) kn_5 (by omega) ?_
              refine r_iconst C dX11_pages_161 ic_1 ?_
              refine r_iadd C dX11_pages_162 ?_
              refine r_sst C dX11_pages_163 hm (j := 5) kn_5 (by omega) ?_
              refine r_aload_n C dX11_pages_164 rfl ?_
              refine gf_X11_7 C dX11_pages_165 hm.1 (hm.k (by decide)) ?_
              refine r_bipush C dX11_pages_168 bp_16 ?_
              refine r_iconst C dX11_pages_170 ic_5 ?_
              refine r_iload_n C dX11_pages_171 rfl ?_
              refine r_imul C dX11_pages_172 ?_
              refine r_iadd C dX11_pages_173 ?_
              refine r_iconst C dX11_pages_174 ic_3 ?_
              refine r_iadd C dX11_pages_175 ?_
              refine r_dup2 C dX11_pages_176 rfl rfl ?_
              refine r_sld C dX11_pages_177 hm (j := ((16 + (5 * q)) + 3)) (na_add (na_add kn_16 (na_mul kn_5 rfl)) kn_3) (by omega) ?_
              refine r_iconst C dX11_pages_178 ic_1 ?_
              refine r_iadd C dX11_pages_179 ?_
              refine r_sst C dX11_pages_180 hm (j := ((16 + (5 * q)) + 3)) (na_add (na_add kn_16 (na_mul kn_5 rfl)) kn_3) (by omega) ?_
              exact hE _ _ _ dX11_pages_181 (And.intro rfl (by rw [hPg, mPageW]; simp (disch := omega) [mNone, mPage3, c_25, nq, c_36, c_50, c_66, upd_o]))
          · exact absurd c_85 (by decide)
        · skip
          refine r_iconst C dX11_pages_69 ic_1 ?_
          refine r_goto (tgt := 74) C dX11_pages_70 rfl ?_
          refine r_istore C dX11_pages_74 rfl rfl ?_
          refine r_aload_n C dX11_pages_76 rfl ?_
          refine gf_X11_7 C dX11_pages_77 hm.1 (hm.k (by decide)) ?_
          refine r_iload_n C dX11_pages_80 rfl ?_
          refine r_iconst C dX11_pages_81 ic_4 ?_
          refine r_iadd C dX11_pages_82 ?_
          refine r_iload C dX11_pages_83 rfl ?_
          refine r_if_eq (tgt := 92) C dX11_pages_85 rfl (fun c_85 => ?_) (fun c_85 => ?_)
          · exact absurd c_85 (by decide)
          · skip
            refine r_iconst C dX11_pages_88 ic_0 ?_
            refine r_goto (tgt := 95) C dX11_pages_89 rfl ?_
            refine r_sst C dX11_pages_95 hm (j := ((101 + 16 * i) + 4)) (na_add (na_add kn_101 (na_mul kn_16 rfl)) kn_4) (by omega) ?_
            refine r_aload_n C dX11_pages_96 rfl ?_
            refine gf_X11_7 C dX11_pages_97 hm.1 (hm.k (by decide)) ?_
            refine r_iload_n C dX11_pages_100 rfl ?_
            refine r_iconst C dX11_pages_101 ic_5 ?_
            refine r_iadd C dX11_pages_102 ?_
            refine r_iconst C dX11_pages_103 ic_0 ?_
            refine r_sst C dX11_pages_104 hm (j := ((101 + 16 * i) + 5)) (na_add (na_add kn_101 (na_mul kn_16 rfl)) kn_5) (by omega) ?_
            refine r_aload_n C dX11_pages_105 rfl ?_
            refine gf_X11_7 C dX11_pages_106 hm.1 (hm.k (by decide)) ?_
            refine r_iload_n C dX11_pages_109 rfl ?_
            refine r_bipush C dX11_pages_110 bp_11 ?_
            refine r_iadd C dX11_pages_112 ?_
            refine r_aload_n C dX11_pages_113 rfl ?_
            refine r_aload_n C dX11_pages_114 rfl ?_
            refine gf_X11_7 C dX11_pages_115 hm.1 (hm.k (by decide)) ?_
            refine r_iconst C dX11_pages_118 ic_2 ?_
            refine r_sld C dX11_pages_119 hm (j := 2) kn_2 (by omega) ?_
            refine cvI_X11_51 C dX11_pages_120 (c_X11_regionAt hm (by obtain ⟨R, r1, r2⟩ := MI_R hI; exact ⟨R, r1, by rw [upd_o (by omega), upd_o (by omega)]; exact r2⟩) _) hm.1 (hm.k (by decide)) ⟨rfl, rfl⟩ rfl rfl rfl ?_
            rw [mRegion_congr (fun q hq => by rw [upd_o (by omega), upd_o (by omega)]) (MI_R hI), show (upd (upd σ _ _) _ _ : Nat → Int32) 2 = σ 2 by rw [upd_o (by omega), upd_o (by omega)]]
            refine r_sst C dX11_pages_123 hm (j := ((101 + 16 * i) + 11)) (na_add (na_add kn_101 (na_mul kn_16 rfl)) kn_11) (by omega) ?_
            refine r_iload C dX11_pages_124 rfl ?_
            refine r_if_ne (tgt := 181) C dX11_pages_126 rfl (fun c_126 => ?_) (fun c_126 => ?_)
            · skip
              exact hE _ _ _ dX11_pages_181 (And.intro rfl (by rw [hPg, mPageW]; simp (disch := omega) [mNone, mPage3, c_25, nq, c_36, c_50, c_66, upd_o]))
            · exact absurd c_126 (by decide)
