/-! ===== the reference: people, regions ===== -/
def mComes (σ : Nat → Int32) : Int32 × (Nat → Int32) := if σ 0 = 8 then (-3, σ) else (σ 0 + 1 - 1, upd σ 0 (σ 0 + 1))
def mLies (σ : Nat → Int32) (x y z : Int32) : Int32 × (Nat → Int32) := if mIn x 0 23 = 0 then (-1, σ) else if mIn y 0 23 = 0 then (-1, σ) else if x = y then (-1, σ) else if mIn z 1 24 = 0 then (-1, σ) else if σ 1 = 3 then (-3, σ) else
  (σ 1 + 1 - 1, upd (upd (upd (upd σ (56 + 9 * (σ 1).toNatClampNeg) x) (56 + 9 * (σ 1).toNatClampNeg + 1) y) (56 + 9 * (σ 1).toNatClampNeg + 2) z) 1 (σ 1 + 1))
def mPlLp (σ : Nat → Int32) (i : Nat) (y : Int32) : Nat → Nat → Int32 → Int32
  | 0, _, f => f
  | r + 1, k, f => mPlLp σ i y r (k + 1) (if σ (56 + 9 * i + (4 + k)) = y then nI k else f)
def mPlaceIn (σ : Nat → Int32) (i : Nat) (y : Int32) : Int32 := mPlLp σ i y (σ (56 + 9 * i + 3)).toNatClampNeg 0 (-1)
theorem mPlLp_or (σ : Nat → Int32) (i : Nat) (y : Int32) : ∀ (r k : Nat) (f : Int32), (f = -1 ∨ ∃ p, p < k ∧ f = nI p) → mPlLp σ i y r k f = -1 ∨ ∃ p, p < k + r ∧ mPlLp σ i y r k f = nI p
  | 0, _, f, h => h
  | r + 1, k, f, h => by
    unfold mPlLp
    have := mPlLp_or σ i y r (k + 1) (if σ (56 + 9 * i + (4 + k)) = y then nI k else f) (by
      split
      · exact Or.inr ⟨k, by omega, rfl⟩
      · rcases h with e | ⟨p, h1, h2⟩
        · exact Or.inl e
        · exact Or.inr ⟨p, by omega, h2⟩)
    rcases this with e | ⟨p, h1, h2⟩
    · exact Or.inl e
    · exact Or.inr ⟨p, by omega, h2⟩
theorem mPlaceIn_of {σ : Nat → Int32} {i m : Nat} {y : Int32} (hm : m ≤ 5) (em : σ (56 + 9 * i + 3) = nI m) (h : ¬ mPlaceIn σ i y < 0) : ∃ p, p < m ∧ mPlaceIn σ i y = nI p := by
  unfold mPlaceIn at h ⊢
  rw [em, nI_clamp (show m < 2 ^ 31 by omega)] at h ⊢
  rcases mPlLp_or σ i y m 0 (-1) (Or.inl rfl) with e | ⟨p, h1, h2⟩
  · exact absurd (by rw [e]; decide) h
  · exact ⟨p, by omega, h2⟩
def mJoins (σ : Nat → Int32) (x y : Int32) : Int32 × (Nat → Int32) := if mIn x 0 (σ 1 - 1) = 0 then (-1, σ) else if mIn y 0 (σ 0 - 1) = 0 then (-1, σ) else if mPlaceIn σ x.toNatClampNeg y < 0 then
    (if σ (56 + 9 * x.toNatClampNeg + 3) = 5 then (-3, σ) else (σ (56 + 9 * x.toNatClampNeg + 3) + 1, upd (upd σ (56 + 9 * x.toNatClampNeg + 4 + (σ (56 + 9 * x.toNatClampNeg + 3)).toNatClampNeg) y) (56 + 9 * x.toNatClampNeg + 3) (σ (56 + 9 * x.toNatClampNeg + 3) + 1)))
  else (-2, σ)
def mShLp (i : Nat) : Nat → Nat → (Nat → Int32) → Nat → Int32
  | 0, _, σ => σ
  | r + 1, k, σ => mShLp i r (k + 1) (upd σ (56 + 9 * i + 4 + k) (σ (56 + 9 * i + 4 + k + 1)))
def mLeaves (σ : Nat → Int32) (x y : Int32) : Int32 × (Nat → Int32) := if mIn x 0 (σ 1 - 1) = 0 then (-1, σ) else if mIn y 0 (σ 0 - 1) = 0 then (-1, σ) else if mPlaceIn σ x.toNatClampNeg y < 0 then (-2, σ) else
  (σ (56 + 9 * x.toNatClampNeg + 3) - 1, mShLp x.toNatClampNeg ((σ (56 + 9 * x.toNatClampNeg + 3)).toNatClampNeg - 1 - (mPlaceIn σ x.toNatClampNeg y).toNatClampNeg) (mPlaceIn σ x.toNatClampNeg y).toNatClampNeg (upd σ (56 + 9 * x.toNatClampNeg + 3) (σ (56 + 9 * x.toNatClampNeg + 3) - 1)))
theorem mShLp_o {i q : Nat} : ∀ (r k : Nat) (σ : Nat → Int32), (q < 56 + 9 * i + 4 + k ∨ 56 + 9 * i + 4 + k + r ≤ q) → mShLp i r k σ q = σ q
  | 0, _, _, _ => rfl
  | r + 1, k, σ, h => by rw [mShLp, mShLp_o r (k + 1) _ (by omega), upd_o (by omega)]
def mRests (σ : Nat → Int32) (x y z : Int32) : Int32 × (Nat → Int32) := if mIn x 0 (σ 0 - 1) = 0 then (-1, σ) else if mIn y 0 23 = 0 then (-1, σ) else if mIn z 0 23 = 0 then (-1, σ) else
  (if z - y < 0 then z - y + 24 else z - y, upd (upd σ (16 + 5 * x.toNatClampNeg) y) (16 + 5 * x.toNatClampNeg + 1) z)
def mFrcLp (σ : Nat → Int32) : Nat → Nat → Int32 → Int32
  | 0, _, a => a
  | r + 1, k, a => mFrcLp σ r (k + 1) (a + (if σ 2 < σ (83 + 3 * k + 2) then 1 else 0))
def mForce (σ : Nat → Int32) : Int32 := mFrcLp σ (σ 15).toNatClampNeg 0 0
def mSets (σ : Nat → Int32) (x y : Int32) : Int32 × (Nat → Int32) := if mIn x 0 1 = 0 then (-1, σ) else if x = 0 then (if mIn y 1 120 = 0 then (-1, σ) else (σ (13 + x.toNatClampNeg), upd σ (13 + x.toNatClampNeg) y)) else (if mIn y 0 600 = 0 then (-1, σ) else (σ (13 + x.toNatClampNeg), upd σ (13 + x.toNatClampNeg) y))
theorem mIn_1 {x : Int32} (h : ¬ mIn x 0 1 = 0) : ∃ j, j < 2 ∧ x = nI j := mIn_of (k := 2) (by decide +kernel) (by decide) h
theorem mIn_R {σ : Nat → Int32} {x : Int32} (hI : MI σ) (h : ¬ mIn x 0 (σ 1 - 1) = 0) : ∃ j, j < 3 ∧ x = nI j := by
  obtain ⟨R, r1, r2, -⟩ := hI.2.1
  obtain ⟨j, h1, h2⟩ := mIn_of (k := R) (by rw [r2]) (by omega) h
  exact ⟨j, by omega, h2⟩
theorem mIn_P {σ : Nat → Int32} {x : Int32} (hI : MI σ) (h : ¬ mIn x 0 (σ 0 - 1) = 0) : ∃ j, j < 8 ∧ x = nI j := by
  obtain ⟨P, p1, p2⟩ := hI.1
  obtain ⟨j, h1, h2⟩ := mIn_of (k := P) (by rw [p2]) (by omega) h
  exact ⟨j, by omega, h2⟩
def mAcks (σ : Nat → Int32) (x : Int32) : Int32 × (Nat → Int32) := if mInc σ x = 0 then (-1, σ) else if σ (101 + 16 * x.toNatClampNeg + 4) = 0 then (-2, σ) else if σ (101 + 16 * x.toNatClampNeg + 5) = 1 then (-2, σ) else
  (σ 2 - σ (101 + 16 * x.toNatClampNeg + 10), upd (upd (upd σ (101 + 16 * x.toNatClampNeg + 5) 1) 11 (σ 11 + (σ 2 - σ (101 + 16 * x.toNatClampNeg + 10)))) 12 (σ 12 + 1))
def mRes3 (σ : Nat → Int32) (j : Nat) (τ : Nat → Int32) : Nat → Int32 := upd (upd (upd τ (101 + 16 * j) 0) 10 (σ 10 + (σ 2 - σ (101 + 16 * j + 7)))) 6 (σ 6 + 1)
def mResolves (σ : Nat → Int32) (x : Int32) : Int32 × (Nat → Int32) := if mInc σ x = 0 then (-1, σ) else
  (σ 2 - σ (101 + 16 * x.toNatClampNeg + 7), if 0 < σ (101 + 16 * x.toNatClampNeg + 4) then mRes3 σ x.toNatClampNeg (upd σ (16 + 5 * (σ (101 + 16 * x.toNatClampNeg + 4) - 1).toNatClampNeg + 4) (σ (16 + 5 * (σ (101 + 16 * x.toNatClampNeg + 4) - 1).toNatClampNeg + 4) + 1)) else mRes3 σ x.toNatClampNeg σ)
set_option maxRecDepth 100000 in
set_option maxHeartbeats 4000000 in
theorem c_X11_comes {g : mG} {l : Launch} {tpl : mT} {b n : Nat} {v : mV} {σ : Nat → Int32} (hm : isM g tpl b n) (hI : MI σ) : CT g l tpl b n yX11_comes cX11_comes 1 (some .int) rm_X11_comes [.ref (b + 0)] (sv v σ) (pI (mComes σ).1 (sv v (mComes σ).2)) := by
  refine CT.introI [some (.ref (b + 0))] (own := RX11) (by decide +kernel) rfl rfl rfl rfl ?_
  intro p e s m args below meth c Q C hE
  refine r_aload_n C dX11_comes_0 rfl ?_
  refine gf_X11_7 C dX11_comes_1 hm.1 (hm.k (by decide)) ?_
  refine r_iconst C dX11_comes_4 ic_0 ?_
  refine r_sld C dX11_comes_5 hm (j := 0) kn_0 (by omega) ?_
  refine r_bipush C dX11_comes_6 bp_8 ?_
  refine r_icmp_ne (tgt := 14) C dX11_comes_8 rfl (fun c_8 => ?_) (fun c_8 => ?_)
  · skip
    try simp (disch := omega) only [Nat.add_zero] at c_8
    refine r_aload_n C dX11_comes_14 rfl ?_
    refine gf_X11_7 C dX11_comes_15 hm.1 (hm.k (by decide)) ?_
    refine r_iconst C dX11_comes_18 ic_0 ?_
    refine r_dup2 C dX11_comes_19 rfl rfl ?_
    refine r_sld C dX11_comes_20 hm (j := 0) kn_0 (by omega) ?_
    refine r_iconst C dX11_comes_21 ic_1 ?_
    refine r_iadd C dX11_comes_22 ?_
    refine r_sst C dX11_comes_23 hm (j := 0) kn_0 (by omega) ?_
    refine r_aload_n C dX11_comes_24 rfl ?_
    refine gf_X11_7 C dX11_comes_25 hm.1 (hm.k (by decide)) ?_
    refine r_iconst C dX11_comes_28 ic_0 ?_
    refine r_sld C dX11_comes_29 hm (j := 0) kn_0 (by omega) ?_
    refine r_iconst C dX11_comes_30 ic_1 ?_
    refine r_isub C dX11_comes_31 ?_
    exact hE _ _ _ _ dX11_comes_32 (by simp (disch := omega) [pI, pV, mComes, c_8, upd_o, upd_r])
  · skip
    try simp (disch := omega) only [Nat.add_zero] at c_8
    refine r_bipush C dX11_comes_11 bp_m3 ?_
    exact hE _ _ _ _ dX11_comes_13 (by simp (disch := omega) [pI, pV, mComes, c_8, upd_o, upd_r])
set_option maxRecDepth 100000 in
set_option maxHeartbeats 4000000 in
theorem c_X11_lies {g : mG} {l : Launch} {tpl : mT} {b n : Nat} {v : mV} {σ : Nat → Int32} (hm : isM g tpl b n) (hI : MI σ) (x y z : Int32) : CT g l tpl b n yX11_lies cX11_lies 5 (some .int) rm_X11_lies [.ref (b + 0), .int x, .int y, .int z] (sv v σ) (pI (mLies σ x y z).1 (sv v (mLies σ x y z).2)) := by
  refine CT.introI [some (.ref (b + 0)), some (.int x), some (.int y), some (.int z), none] (own := RX11) (by decide +kernel) rfl rfl rfl rfl ?_
  intro p e s m args below meth c Q C hE
  refine r_iload_n C dX11_lies_0 rfl ?_
  refine r_iconst C dX11_lies_1 ic_0 ?_
  refine r_bipush C dX11_lies_2 bp_23 ?_
  refine cvI_X11_32 C dX11_lies_4 (c_X11_in _ _ _) ⟨rfl, rfl⟩ rfl rfl rfl ?_
  refine r_if_eq (tgt := 35) C dX11_lies_7 rfl (fun c_7 => ?_) (fun c_7 => ?_)
  · skip
    refine r_iconst C dX11_lies_35 ic_m1 ?_
    exact hE _ _ _ _ dX11_lies_36 (by simp (disch := omega) [pI, pV, mLies, c_7, upd_o, upd_r])
  · skip
    refine r_iload_n C dX11_lies_10 rfl ?_
    refine r_iconst C dX11_lies_11 ic_0 ?_
    refine r_bipush C dX11_lies_12 bp_23 ?_
    refine cvI_X11_32 C dX11_lies_14 (c_X11_in _ _ _) ⟨rfl, rfl⟩ rfl rfl rfl ?_
    refine r_if_eq (tgt := 35) C dX11_lies_17 rfl (fun c_17 => ?_) (fun c_17 => ?_)
    · skip
      refine r_iconst C dX11_lies_35 ic_m1 ?_
      exact hE _ _ _ _ dX11_lies_36 (by simp (disch := omega) [pI, pV, mLies, c_7, c_17, upd_o, upd_r])
    · skip
      refine r_iload_n C dX11_lies_20 rfl ?_
      refine r_iload_n C dX11_lies_21 rfl ?_
      refine r_icmp_eq (tgt := 35) C dX11_lies_22 rfl (fun c_22 => ?_) (fun c_22 => ?_)
      · skip
        refine r_iconst C dX11_lies_35 ic_m1 ?_
        exact hE _ _ _ _ dX11_lies_36 (by simp (disch := omega) [pI, pV, mLies, c_7, c_17, c_22, upd_o, upd_r])
      · skip
        refine r_iload_n C dX11_lies_25 rfl ?_
        refine r_iconst C dX11_lies_26 ic_1 ?_
        refine r_bipush C dX11_lies_27 bp_24 ?_
        refine cvI_X11_32 C dX11_lies_29 (c_X11_in _ _ _) ⟨rfl, rfl⟩ rfl rfl rfl ?_
        refine r_if_ne (tgt := 37) C dX11_lies_32 rfl (fun c_32 => ?_) (fun c_32 => ?_)
        · skip
          refine r_aload_n C dX11_lies_37 rfl ?_
          refine gf_X11_7 C dX11_lies_38 hm.1 (hm.k (by decide)) ?_
          refine r_iconst C dX11_lies_41 ic_1 ?_
          refine r_sld C dX11_lies_42 hm (j := 1) kn_1 (by omega) ?_
          refine r_iconst C dX11_lies_43 ic_3 ?_
          refine r_icmp_ne (tgt := 50) C dX11_lies_44 rfl (fun c_44 => ?_) (fun c_44 => ?_)
          · skip
            obtain ⟨R0, r1, r2, -⟩ := hI.2.1
            have nc : (σ 1).toNatClampNeg = R0 := by rw [r2]; exact nI_clamp (by omega)
            have hR3 : R0 < 3 := by
              by_cases hz : R0 < 3
              · exact hz
              · exact absurd (by rw [r2, show R0 = 3 by omega]; exact kn_3.symm) c_44
            refine r_bipush C dX11_lies_50 bp_56 ?_
            refine r_bipush C dX11_lies_52 bp_9 ?_
            refine r_aload_n C dX11_lies_54 rfl ?_
            refine gf_X11_7 C dX11_lies_55 hm.1 (hm.k (by decide)) ?_
            refine r_iconst C dX11_lies_58 ic_1 ?_
            refine r_sld C dX11_lies_59 hm (j := 1) kn_1 (by omega) ?_
            refine r_imul C dX11_lies_60 ?_
            refine r_iadd C dX11_lies_61 ?_
            refine r_istore C dX11_lies_62 rfl rfl ?_
            refine r_aload_n C dX11_lies_64 rfl ?_
            refine gf_X11_7 C dX11_lies_65 hm.1 (hm.k (by decide)) ?_
            refine r_iload C dX11_lies_68 rfl ?_
            refine r_iconst C dX11_lies_70 ic_0 ?_
            refine r_iadd C dX11_lies_71 ?_
            refine r_iload_n C dX11_lies_72 rfl ?_
            refine r_sst C dX11_lies_73 hm (j := (56 + (9 * R0))) (na_add0 (na_add kn_56 (na_mul kn_9 r2)) kn_0) (by omega) ?_
            refine r_aload_n C dX11_lies_74 rfl ?_
            refine gf_X11_7 C dX11_lies_75 hm.1 (hm.k (by decide)) ?_
            refine r_iload C dX11_lies_78 rfl ?_
            refine r_iconst C dX11_lies_80 ic_1 ?_
            refine r_iadd C dX11_lies_81 ?_
            refine r_iload_n C dX11_lies_82 rfl ?_
            refine r_sst C dX11_lies_83 hm (j := ((56 + (9 * R0)) + 1)) (na_add (na_add kn_56 (na_mul kn_9 r2)) kn_1) (by omega) ?_
            refine r_aload_n C dX11_lies_84 rfl ?_
            refine gf_X11_7 C dX11_lies_85 hm.1 (hm.k (by decide)) ?_
            refine r_iload C dX11_lies_88 rfl ?_
            refine r_iconst C dX11_lies_90 ic_2 ?_
            refine r_iadd C dX11_lies_91 ?_
            refine r_iload_n C dX11_lies_92 rfl ?_
            refine r_sst C dX11_lies_93 hm (j := ((56 + (9 * R0)) + 2)) (na_add (na_add kn_56 (na_mul kn_9 r2)) kn_2) (by omega) ?_
            refine r_aload_n C dX11_lies_94 rfl ?_
            refine gf_X11_7 C dX11_lies_95 hm.1 (hm.k (by decide)) ?_
            refine r_iconst C dX11_lies_98 ic_1 ?_
            refine r_dup2 C dX11_lies_99 rfl rfl ?_
            refine r_sld C dX11_lies_100 hm (j := 1) kn_1 (by omega) ?_
            refine r_iconst C dX11_lies_101 ic_1 ?_
            refine r_iadd C dX11_lies_102 ?_
            refine r_sst C dX11_lies_103 hm (j := 1) kn_1 (by omega) ?_
            refine r_aload_n C dX11_lies_104 rfl ?_
            refine gf_X11_7 C dX11_lies_105 hm.1 (hm.k (by decide)) ?_
            refine r_iconst C dX11_lies_108 ic_1 ?_
            refine r_sld C dX11_lies_109 hm (j := 1) kn_1 (by omega) ?_
            refine r_iconst C dX11_lies_110 ic_1 ?_
            refine r_isub C dX11_lies_111 ?_
            exact hE _ _ _ _ dX11_lies_112 (by simp (disch := omega) [pI, pV, mLies, c_7, c_17, c_22, c_32, c_44, nc, upd_o, upd_r])
          · skip
            refine r_bipush C dX11_lies_47 bp_m3 ?_
            exact hE _ _ _ _ dX11_lies_49 (by simp (disch := omega) [pI, pV, mLies, c_7, c_17, c_22, c_32, c_44, upd_o, upd_r])
        · skip
          refine r_iconst C dX11_lies_35 ic_m1 ?_
          exact hE _ _ _ _ dX11_lies_36 (by simp (disch := omega) [pI, pV, mLies, c_7, c_17, c_22, c_32, upd_o, upd_r])
set_option maxRecDepth 100000 in
set_option maxHeartbeats 4000000 in
theorem c_X11_placeIn {g : mG} {l : Launch} {tpl : mT} {b n : Nat} {v : mV} {σ : Nat → Int32} (hm : isM g tpl b n) (x y : Int32) (i m0 : Nat) (hx : x = nI i) (hi : i < 3) (hm5 : m0 ≤ 5) (em : σ (56 + 9 * i + 3) = nI m0) : CT g l tpl b n yX11_placeIn cX11_placeIn 5 (some .int) rm_X11_placeIn [.ref (b + 0), .int x, .int y] (sv v σ) (pI (mPlaceIn σ i y) (sv v σ)) := by
  refine CT.introI [some (.ref (b + 0)), some (.int x), some (.int y), none, none] (own := RX11) (by decide +kernel) rfl rfl rfl rfl ?_
  intro p e s m args below meth c Q C hE
  have nm : (σ (56 + 9 * i + 3)).toNatClampNeg = m0 := by rw [em]; exact nI_clamp (by omega)
  refine r_iconst C dX11_placeIn_0 ic_m1 ?_
  refine r_istore_n C dX11_placeIn_1 rfl rfl ?_
  refine r_iconst C dX11_placeIn_2 ic_0 ?_
  refine r_istore C dX11_placeIn_3 rfl rfl ?_
  have loop_5 : ∀ (r : Nat) (k : Nat) (f : Int32), (k + r = m0) → (mPlLp σ i y r k f = mPlLp σ i y m0 0 (-1)) → WM g p l e rm_X11_placeIn s m args below meth c Q tpl b n (sv v σ) 5 [some (.ref (b + 0)), some (.int x), some (.int y), some (.int f), some (.int (nI k))] [] := by
    intro r
    induction r with
    | zero =>
      intro k f hk hR
      refine r_iload C dX11_placeIn_5 rfl ?_
      refine r_aload_n C dX11_placeIn_7 rfl ?_
      refine r_iload_n C dX11_placeIn_8 rfl ?_
      refine r_iconst C dX11_placeIn_9 ic_3 ?_
      refine cvI_X11_40 C dX11_placeIn_10 (c_X11_ofWhere hm _ _ i 3 hx kn_3 (by omega)) hm.1 (hm.k (by decide)) ⟨rfl, rfl⟩ rfl rfl rfl ?_
      refine r_icmp_ge (tgt := 42) C dX11_placeIn_13 rfl (fun c_13 => ?_) (fun c_13 => ?_)
      · skip
        refine r_iload_n C dX11_placeIn_42 rfl ?_
        exact hE _ _ _ _ dX11_placeIn_43 (by rw [mPlaceIn, nm, ← hR]; exact And.intro rfl rfl)
      · exact absurd c_13 (by rw [em]; exact nI_nlt (by omega) (by omega))
    | succ r ih_5 =>
      intro k f hk hR
      refine r_iload C dX11_placeIn_5 rfl ?_
      refine r_aload_n C dX11_placeIn_7 rfl ?_
      refine r_iload_n C dX11_placeIn_8 rfl ?_
      refine r_iconst C dX11_placeIn_9 ic_3 ?_
      refine cvI_X11_40 C dX11_placeIn_10 (c_X11_ofWhere hm _ _ i 3 hx kn_3 (by omega)) hm.1 (hm.k (by decide)) ⟨rfl, rfl⟩ rfl rfl rfl ?_
      refine r_icmp_ge (tgt := 42) C dX11_placeIn_13 rfl (fun c_13 => ?_) (fun c_13 => ?_)
      · exact absurd (by rw [em]; exact nI_lt (by omega) (by omega)) c_13
      · skip
        refine r_aload_n C dX11_placeIn_16 rfl ?_
        refine r_iload_n C dX11_placeIn_17 rfl ?_
        refine r_iconst C dX11_placeIn_18 ic_4 ?_
        refine r_iload C dX11_placeIn_19 rfl ?_
        refine r_iadd C dX11_placeIn_21 ?_
        refine cvI_X11_40 C dX11_placeIn_22 (c_X11_ofWhere hm _ _ i (4 + k) hx (na_add kn_4 rfl) (by omega)) hm.1 (hm.k (by decide)) ⟨rfl, rfl⟩ rfl rfl rfl ?_
        refine r_iload_n C dX11_placeIn_25 rfl ?_
        refine r_icmp_ne (tgt := 34) C dX11_placeIn_26 rfl (fun c_26 => ?_) (fun c_26 => ?_)
        · skip
          refine r_iload_n C dX11_placeIn_34 rfl ?_
          refine r_istore_n C dX11_placeIn_35 rfl rfl ?_
          refine r_iinc C dX11_placeIn_36 rfl (nI_inc _) rfl ?_
          refine r_goto (tgt := 5) C dX11_placeIn_39 rfl ?_
          exact ih_5 (k + 1) _ (by omega) (by rw [← hR]; simp [mPlLp, c_13, c_26])
        · skip
          refine r_iload C dX11_placeIn_29 rfl ?_
          refine r_goto (tgt := 35) C dX11_placeIn_31 rfl ?_
          refine r_istore_n C dX11_placeIn_35 rfl rfl ?_
          refine r_iinc C dX11_placeIn_36 rfl (nI_inc _) rfl ?_
          refine r_goto (tgt := 5) C dX11_placeIn_39 rfl ?_
          exact ih_5 (k + 1) _ (by omega) (by rw [← hR]; simp [mPlLp, c_13, c_26])
  exact loop_5 m0 0 (-1) (by omega) rfl
set_option maxRecDepth 100000 in
set_option maxHeartbeats 4000000 in
theorem c_X11_joins {g : mG} {l : Launch} {tpl : mT} {b n : Nat} {v : mV} {σ : Nat → Int32} (hm : isM g tpl b n) (hI : MI σ) (x y : Int32) : CT g l tpl b n yX11_joins cX11_joins 5 (some .int) rm_X11_joins [.ref (b + 0), .int x, .int y] (sv v σ) (pI (mJoins σ x y).1 (sv v (mJoins σ x y).2)) := by
  refine CT.introI [some (.ref (b + 0)), some (.int x), some (.int y), none, none] (own := RX11) (by decide +kernel) rfl rfl rfl rfl ?_
  intro p e s m args below meth c Q C hE
  refine r_aload_n C dX11_joins_0 rfl ?_
  refine r_iload_n C dX11_joins_1 rfl ?_
  refine cvI_X11_77 C dX11_joins_2 (c_X11_isRegion hm _) hm.1 (hm.k (by decide)) ⟨rfl, rfl⟩ rfl rfl rfl ?_
  refine r_if_eq (tgt := 16) C dX11_joins_5 rfl (fun c_5 => ?_) (fun c_5 => ?_)
  · skip
    refine r_iconst C dX11_joins_16 ic_m1 ?_
    exact hE _ _ _ _ dX11_joins_17 (by simp (disch := omega) [pI, pV, mJoins, c_5, upd_o, upd_r])
  · skip
    obtain ⟨j, hj, rfl⟩ := mIn_R hI c_5
    have nc : (nI j).toNatClampNeg = j := nI_clamp (by omega)
    refine r_aload_n C dX11_joins_8 rfl ?_
    refine r_iload_n C dX11_joins_9 rfl ?_
    refine cvI_X11_80 C dX11_joins_10 (c_X11_isPerson hm _) hm.1 (hm.k (by decide)) ⟨rfl, rfl⟩ rfl rfl rfl ?_
    refine r_if_ne (tgt := 18) C dX11_joins_13 rfl (fun c_13 => ?_) (fun c_13 => ?_)
    · skip
      obtain ⟨m0, hm5, em⟩ := hI.2.2.2.2.1 j hj
      have nm : (σ (56 + 9 * j + 3)).toNatClampNeg = m0 := by rw [em]; exact nI_clamp (by omega)
      refine r_aload_n C dX11_joins_18 rfl ?_
      refine r_iload_n C dX11_joins_19 rfl ?_
      refine r_iload_n C dX11_joins_20 rfl ?_
      refine cvI_X11_83 C dX11_joins_21 (c_X11_placeIn hm _ _ j m0 rfl hj hm5 em) hm.1 (hm.k (by decide)) ⟨rfl, rfl⟩ rfl rfl rfl ?_
      refine r_if_lt (tgt := 30) C dX11_joins_24 rfl (fun c_24 => ?_) (fun c_24 => ?_)
      · skip
        refine r_aload_n C dX11_joins_30 rfl ?_
        refine r_iload_n C dX11_joins_31 rfl ?_
        refine r_iconst C dX11_joins_32 ic_3 ?_
        refine cvI_X11_40 C dX11_joins_33 (c_X11_ofWhere hm _ _ j 3 rfl kn_3 (by omega)) hm.1 (hm.k (by decide)) ⟨rfl, rfl⟩ rfl rfl rfl ?_
        refine r_istore_n C dX11_joins_36 rfl rfl ?_
        refine r_iload_n C dX11_joins_37 rfl ?_
        refine r_iconst C dX11_joins_38 ic_5 ?_
        refine r_icmp_ne (tgt := 45) C dX11_joins_39 rfl (fun c_39 => ?_) (fun c_39 => ?_)
        · skip
          have hm4 : m0 < 5 := by
            by_cases hz : m0 < 5
            · exact hz
            · exact absurd (by rw [em, show m0 = 5 by omega]; exact kn_5.symm) c_39
          refine r_bipush C dX11_joins_45 bp_56 ?_
          refine r_bipush C dX11_joins_47 bp_9 ?_
          refine r_iload_n C dX11_joins_49 rfl ?_
          refine r_imul C dX11_joins_50 ?_
          refine r_iadd C dX11_joins_51 ?_
          refine r_istore C dX11_joins_52 rfl rfl ?_
          refine r_aload_n C dX11_joins_54 rfl ?_
          refine gf_X11_7 C dX11_joins_55 hm.1 (hm.k (by decide)) ?_
          refine r_iload C dX11_joins_58 rfl ?_
          refine r_iconst C dX11_joins_60 ic_4 ?_
          refine r_iadd C dX11_joins_61 ?_
          refine r_iload_n C dX11_joins_62 rfl ?_
          refine r_iadd C dX11_joins_63 ?_
          refine r_iload_n C dX11_joins_64 rfl ?_
          refine r_sst C dX11_joins_65 hm (j := (((56 + (9 * j)) + 4) + m0)) (na_add (na_add (na_add kn_56 (na_mul kn_9 rfl)) kn_4) em) (by omega) ?_
          refine r_aload_n C dX11_joins_66 rfl ?_
          refine gf_X11_7 C dX11_joins_67 hm.1 (hm.k (by decide)) ?_
          refine r_iload C dX11_joins_70 rfl ?_
          refine r_iconst C dX11_joins_72 ic_3 ?_
          refine r_iadd C dX11_joins_73 ?_
          refine r_dup2 C dX11_joins_74 rfl rfl ?_
          refine r_sld C dX11_joins_75 hm (j := ((56 + (9 * j)) + 3)) (na_add (na_add kn_56 (na_mul kn_9 rfl)) kn_3) (by omega) ?_
          refine r_iconst C dX11_joins_76 ic_1 ?_
          refine r_iadd C dX11_joins_77 ?_
          refine r_sst C dX11_joins_78 hm (j := ((56 + (9 * j)) + 3)) (na_add (na_add kn_56 (na_mul kn_9 rfl)) kn_3) (by omega) ?_
          refine r_iload_n C dX11_joins_79 rfl ?_
          refine r_iconst C dX11_joins_80 ic_1 ?_
          refine r_iadd C dX11_joins_81 ?_
          exact hE _ _ _ _ dX11_joins_82 (by simp (disch := omega) [pI, pV, mJoins, c_5, nc, c_13, nm, c_24, c_39, upd_o, upd_r])
        · skip
          refine r_bipush C dX11_joins_42 bp_m3 ?_
          exact hE _ _ _ _ dX11_joins_44 (by simp (disch := omega) [pI, pV, mJoins, c_5, nc, c_13, nm, c_24, c_39, upd_o, upd_r])
      · skip
        refine r_bipush C dX11_joins_27 bp_m2 ?_
        exact hE _ _ _ _ dX11_joins_29 (by simp (disch := omega) [pI, pV, mJoins, c_5, nc, c_13, nm, c_24, upd_o, upd_r])
    · skip
      refine r_iconst C dX11_joins_16 ic_m1 ?_
      exact hE _ _ _ _ dX11_joins_17 (by simp (disch := omega) [pI, pV, mJoins, c_5, nc, c_13, upd_o, upd_r])
set_option maxRecDepth 100000 in
set_option maxHeartbeats 4000000 in
theorem c_X11_rests {g : mG} {l : Launch} {tpl : mT} {b n : Nat} {v : mV} {σ : Nat → Int32} (hm : isM g tpl b n) (hI : MI σ) (x y z : Int32) : CT g l tpl b n yX11_rests cX11_rests 5 (some .int) rm_X11_rests [.ref (b + 0), .int x, .int y, .int z] (sv v σ) (pI (mRests σ x y z).1 (sv v (mRests σ x y z).2)) := by
  refine CT.introI [some (.ref (b + 0)), some (.int x), some (.int y), some (.int z), none] (own := RX11) (by decide +kernel) rfl rfl rfl rfl ?_
  intro p e s m args below meth c Q C hE
  refine r_aload_n C dX11_rests_0 rfl ?_
  refine r_iload_n C dX11_rests_1 rfl ?_
  refine cvI_X11_80 C dX11_rests_2 (c_X11_isPerson hm _) hm.1 (hm.k (by decide)) ⟨rfl, rfl⟩ rfl rfl rfl ?_
  refine r_if_eq (tgt := 28) C dX11_rests_5 rfl (fun c_5 => ?_) (fun c_5 => ?_)
  · skip
    refine r_iconst C dX11_rests_28 ic_m1 ?_
    exact hE _ _ _ _ dX11_rests_29 (by simp (disch := omega) [pI, pV, mRests, c_5, upd_o, upd_r])
  · skip
    refine r_iload_n C dX11_rests_8 rfl ?_
    refine r_iconst C dX11_rests_9 ic_0 ?_
    refine r_bipush C dX11_rests_10 bp_23 ?_
    refine cvI_X11_32 C dX11_rests_12 (c_X11_in _ _ _) ⟨rfl, rfl⟩ rfl rfl rfl ?_
    refine r_if_eq (tgt := 28) C dX11_rests_15 rfl (fun c_15 => ?_) (fun c_15 => ?_)
    · skip
      refine r_iconst C dX11_rests_28 ic_m1 ?_
      exact hE _ _ _ _ dX11_rests_29 (by simp (disch := omega) [pI, pV, mRests, c_5, c_15, upd_o, upd_r])
    · skip
      refine r_iload_n C dX11_rests_18 rfl ?_
      refine r_iconst C dX11_rests_19 ic_0 ?_
      refine r_bipush C dX11_rests_20 bp_23 ?_
      refine cvI_X11_32 C dX11_rests_22 (c_X11_in _ _ _) ⟨rfl, rfl⟩ rfl rfl rfl ?_
      refine r_if_ne (tgt := 30) C dX11_rests_25 rfl (fun c_25 => ?_) (fun c_25 => ?_)
      · skip
        obtain ⟨j, hj, rfl⟩ := mIn_P hI c_5
        have nc : (nI j).toNatClampNeg = j := nI_clamp (by omega)
        refine r_aload_n C dX11_rests_30 rfl ?_
        refine gf_X11_7 C dX11_rests_31 hm.1 (hm.k (by decide)) ?_
        refine r_bipush C dX11_rests_34 bp_16 ?_
        refine r_iconst C dX11_rests_36 ic_5 ?_
        refine r_iload_n C dX11_rests_37 rfl ?_
        refine r_imul C dX11_rests_38 ?_
        refine r_iadd C dX11_rests_39 ?_
        refine r_iconst C dX11_rests_40 ic_0 ?_
        refine r_iadd C dX11_rests_41 ?_
        refine r_iload_n C dX11_rests_42 rfl ?_
        refine r_sst C dX11_rests_43 hm (j := (16 + (5 * j))) (na_add0 (na_add kn_16 (na_mul kn_5 rfl)) kn_0) (by omega) ?_
        refine r_aload_n C dX11_rests_44 rfl ?_
        refine gf_X11_7 C dX11_rests_45 hm.1 (hm.k (by decide)) ?_
        refine r_bipush C dX11_rests_48 bp_16 ?_
        refine r_iconst C dX11_rests_50 ic_5 ?_
        refine r_iload_n C dX11_rests_51 rfl ?_
        refine r_imul C dX11_rests_52 ?_
        refine r_iadd C dX11_rests_53 ?_
        refine r_iconst C dX11_rests_54 ic_1 ?_
        refine r_iadd C dX11_rests_55 ?_
        refine r_iload_n C dX11_rests_56 rfl ?_
        refine r_sst C dX11_rests_57 hm (j := ((16 + (5 * j)) + 1)) (na_add (na_add kn_16 (na_mul kn_5 rfl)) kn_1) (by omega) ?_
        refine r_iload_n C dX11_rests_58 rfl ?_
        refine r_iload_n C dX11_rests_59 rfl ?_
        refine r_isub C dX11_rests_60 ?_
        refine r_istore C dX11_rests_61 rfl rfl ?_
        refine r_iload C dX11_rests_63 rfl ?_
        refine r_if_ge (tgt := 76) C dX11_rests_65 rfl (fun c_65 => ?_) (fun c_65 => ?_)
        · skip
          refine r_iload C dX11_rests_76 rfl ?_
          exact hE _ _ _ _ dX11_rests_78 (by simp (disch := omega) [pI, pV, mRests, c_5, c_15, c_25, nc, c_65, upd_o, upd_r])
        · skip
          refine r_iload C dX11_rests_68 rfl ?_
          refine r_bipush C dX11_rests_70 bp_24 ?_
          refine r_iadd C dX11_rests_72 ?_
          refine r_goto (tgt := 78) C dX11_rests_73 rfl ?_
          exact hE _ _ _ _ dX11_rests_78 (by simp (disch := omega) [pI, pV, mRests, c_5, c_15, c_25, nc, c_65, upd_o, upd_r])
      · skip
        refine r_iconst C dX11_rests_28 ic_m1 ?_
        exact hE _ _ _ _ dX11_rests_29 (by simp (disch := omega) [pI, pV, mRests, c_5, c_15, c_25, upd_o, upd_r])
set_option maxRecDepth 100000 in
set_option maxHeartbeats 4000000 in
theorem c_X11_inForce {g : mG} {l : Launch} {tpl : mT} {b n : Nat} {v : mV} {σ : Nat → Int32} (hm : isM g tpl b n) (hI : MI σ) : CT g l tpl b n yX11_inForce cX11_inForce 3 (some .int) rm_X11_inForce [.ref (b + 0)] (sv v σ) (pI (mForce σ) (sv v σ)) := by
  refine CT.introI [some (.ref (b + 0)), none, none] (own := RX11) (by decide +kernel) rfl rfl rfl rfl ?_
  intro p e s m args below meth c Q C hE
  obtain ⟨O, hO, eO⟩ := hI.2.2.2.1
  have nO : (σ 15).toNatClampNeg = O := by rw [eO]; exact nI_clamp (by omega)
  refine r_iconst C dX11_inForce_0 ic_0 ?_
  refine r_istore_n C dX11_inForce_1 rfl rfl ?_
  refine r_iconst C dX11_inForce_2 ic_0 ?_
  refine r_istore_n C dX11_inForce_3 rfl rfl ?_
  have loop_4 : ∀ (r : Nat) (k : Nat) (a : Int32), (k + r = O) → (mFrcLp σ r k a = mFrcLp σ O 0 0) → WM g p l e rm_X11_inForce s m args below meth c Q tpl b n (sv v σ) 4 [some (.ref (b + 0)), some (.int a), some (.int (nI k))] [] := by
    intro r
    induction r with
    | zero =>
      intro k a hk hR
      refine r_iload_n C dX11_inForce_4 rfl ?_
      refine r_aload_n C dX11_inForce_5 rfl ?_
      refine gf_X11_7 C dX11_inForce_6 hm.1 (hm.k (by decide)) ?_
      refine r_bipush C dX11_inForce_9 bp_15 ?_
      refine r_sld C dX11_inForce_11 hm (j := 15) kn_15 (by omega) ?_
      refine r_icmp_ge (tgt := 51) C dX11_inForce_12 rfl (fun c_12 => ?_) (fun c_12 => ?_)
      · skip
        refine r_iload_n C dX11_inForce_51 rfl ?_
        exact hE _ _ _ _ dX11_inForce_52 (by rw [mForce, nO, ← hR]; exact And.intro rfl rfl)
      · exact absurd c_12 (by rw [eO]; exact nI_nlt (by omega) (by omega))
    | succ r ih_4 =>
      intro k a hk hR
      refine r_iload_n C dX11_inForce_4 rfl ?_
      refine r_aload_n C dX11_inForce_5 rfl ?_
      refine gf_X11_7 C dX11_inForce_6 hm.1 (hm.k (by decide)) ?_
      refine r_bipush C dX11_inForce_9 bp_15 ?_
      refine r_sld C dX11_inForce_11 hm (j := 15) kn_15 (by omega) ?_
      refine r_icmp_ge (tgt := 51) C dX11_inForce_12 rfl (fun c_12 => ?_) (fun c_12 => ?_)
      · exact absurd (by rw [eO]; exact nI_lt (by omega) (by omega)) c_12
      · skip
        refine r_iload_n C dX11_inForce_15 rfl ?_
        refine r_aload_n C dX11_inForce_16 rfl ?_
        refine gf_X11_7 C dX11_inForce_17 hm.1 (hm.k (by decide)) ?_
        refine r_bipush C dX11_inForce_20 bp_83 ?_
        refine r_iconst C dX11_inForce_22 ic_3 ?_
        refine r_iload_n C dX11_inForce_23 rfl ?_
        refine r_imul C dX11_inForce_24 ?_
        refine r_iadd C dX11_inForce_25 ?_
        refine r_iconst C dX11_inForce_26 ic_2 ?_
        refine r_iadd C dX11_inForce_27 ?_
        refine r_sld C dX11_inForce_28 hm (j := ((83 + (3 * k)) + 2)) (na_add (na_add kn_83 (na_mul kn_3 rfl)) kn_2) (by omega) ?_
        refine r_aload_n C dX11_inForce_29 rfl ?_
        refine gf_X11_7 C dX11_inForce_30 hm.1 (hm.k (by decide)) ?_
        refine r_iconst C dX11_inForce_33 ic_2 ?_
        refine r_sld C dX11_inForce_34 hm (j := 2) kn_2 (by omega) ?_
        refine r_icmp_le (tgt := 42) C dX11_inForce_35 rfl (fun c_35 => ?_) (fun c_35 => ?_)
        · skip
          refine r_iconst C dX11_inForce_42 ic_0 ?_
          refine r_iadd C dX11_inForce_43 ?_
          refine r_istore_n C dX11_inForce_44 rfl rfl ?_
          refine r_iinc C dX11_inForce_45 rfl (nI_inc _) rfl ?_
          refine r_goto (tgt := 4) C dX11_inForce_48 rfl ?_
          exact ih_4 (k + 1) _ (by omega) (by rw [← hR]; simp [mFrcLp, c_12, c_35])
        · skip
          refine r_iconst C dX11_inForce_38 ic_1 ?_
          refine r_goto (tgt := 43) C dX11_inForce_39 rfl ?_
          refine r_iadd C dX11_inForce_43 ?_
          refine r_istore_n C dX11_inForce_44 rfl rfl ?_
          refine r_iinc C dX11_inForce_45 rfl (nI_inc _) rfl ?_
          refine r_goto (tgt := 4) C dX11_inForce_48 rfl ?_
          exact ih_4 (k + 1) _ (by omega) (by rw [← hR]; simp [mFrcLp, c_12, c_35])
  exact loop_4 O 0 0 (by omega) rfl
set_option maxRecDepth 100000 in
set_option maxHeartbeats 4000000 in
theorem c_X11_sets {g : mG} {l : Launch} {tpl : mT} {b n : Nat} {v : mV} {σ : Nat → Int32} (hm : isM g tpl b n) (hI : MI σ) (x y : Int32) : CT g l tpl b n yX11_sets cX11_sets 4 (some .int) rm_X11_sets [.ref (b + 0), .int x, .int y] (sv v σ) (pI (mSets σ x y).1 (sv v (mSets σ x y).2)) := by
  refine CT.introI [some (.ref (b + 0)), some (.int x), some (.int y), none] (own := RX11) (by decide +kernel) rfl rfl rfl rfl ?_
  intro p e s m args below meth c Q C hE
  refine r_iload_n C dX11_sets_0 rfl ?_
  refine r_iconst C dX11_sets_1 ic_0 ?_
  refine r_iconst C dX11_sets_2 ic_1 ?_
  refine cvI_X11_32 C dX11_sets_3 (c_X11_in _ _ _) ⟨rfl, rfl⟩ rfl rfl rfl ?_
  refine r_if_eq (tgt := 37) C dX11_sets_6 rfl (fun c_6 => ?_) (fun c_6 => ?_)
  · skip
    refine r_iconst C dX11_sets_37 ic_m1 ?_
    exact hE _ _ _ _ dX11_sets_38 (by simp (disch := omega) [pI, pV, mSets, c_6, upd_o, upd_r])
  · skip
    obtain ⟨j, hj, rfl⟩ := mIn_1 c_6
    have nc : (nI j).toNatClampNeg = j := nI_clamp (by omega)
    refine r_iload_n C dX11_sets_9 rfl ?_
    refine r_if_ne (tgt := 26) C dX11_sets_10 rfl (fun c_10 => ?_) (fun c_10 => ?_)
    · skip
      refine r_iload_n C dX11_sets_26 rfl ?_
      refine r_iconst C dX11_sets_27 ic_0 ?_
      refine r_sipush C dX11_sets_28 sp_600 ?_
      refine cvI_X11_32 C dX11_sets_31 (c_X11_in _ _ _) ⟨rfl, rfl⟩ rfl rfl rfl ?_
      refine r_if_ne (tgt := 39) C dX11_sets_34 rfl (fun c_34 => ?_) (fun c_34 => ?_)
      · skip
        refine r_aload_n C dX11_sets_39 rfl ?_
        refine gf_X11_7 C dX11_sets_40 hm.1 (hm.k (by decide)) ?_
        refine r_bipush C dX11_sets_43 bp_13 ?_
        refine r_iload_n C dX11_sets_45 rfl ?_
        refine r_iadd C dX11_sets_46 ?_
        refine r_sld C dX11_sets_47 hm (j := (13 + j)) (na_add kn_13 rfl) (by omega) ?_
        refine r_istore_n C dX11_sets_48 rfl rfl ?_
        refine r_aload_n C dX11_sets_49 rfl ?_
        refine gf_X11_7 C dX11_sets_50 hm.1 (hm.k (by decide)) ?_
        refine r_bipush C dX11_sets_53 bp_13 ?_
        refine r_iload_n C dX11_sets_55 rfl ?_
        refine r_iadd C dX11_sets_56 ?_
        refine r_iload_n C dX11_sets_57 rfl ?_
        refine r_sst C dX11_sets_58 hm (j := (13 + j)) (na_add kn_13 rfl) (by omega) ?_
        refine r_iload_n C dX11_sets_59 rfl ?_
        exact hE _ _ _ _ dX11_sets_60 (by rw [mSets, if_neg c_6, nc]; first | (rw [if_pos c_10, if_neg c_20]; exact And.intro rfl rfl) | (rw [if_neg c_10, if_neg c_34]; exact And.intro rfl rfl))
      · skip
        refine r_iconst C dX11_sets_37 ic_m1 ?_
        exact hE _ _ _ _ dX11_sets_38 (by simp (disch := omega) [pI, pV, mSets, c_6, nc, c_10, c_34, upd_o, upd_r])
    · skip
      refine r_iload_n C dX11_sets_13 rfl ?_
      refine r_iconst C dX11_sets_14 ic_1 ?_
      refine r_bipush C dX11_sets_15 bp_120 ?_
      refine cvI_X11_32 C dX11_sets_17 (c_X11_in _ _ _) ⟨rfl, rfl⟩ rfl rfl rfl ?_
      refine r_if_eq (tgt := 37) C dX11_sets_20 rfl (fun c_20 => ?_) (fun c_20 => ?_)
      · skip
        refine r_iconst C dX11_sets_37 ic_m1 ?_
        exact hE _ _ _ _ dX11_sets_38 (by simp (disch := omega) [pI, pV, mSets, c_6, nc, c_10, c_20, upd_o, upd_r])
      · skip
        refine r_goto (tgt := 39) C dX11_sets_23 rfl ?_
        refine r_aload_n C dX11_sets_39 rfl ?_
        refine gf_X11_7 C dX11_sets_40 hm.1 (hm.k (by decide)) ?_
        refine r_bipush C dX11_sets_43 bp_13 ?_
        refine r_iload_n C dX11_sets_45 rfl ?_
        refine r_iadd C dX11_sets_46 ?_
        refine r_sld C dX11_sets_47 hm (j := (13 + j)) (na_add kn_13 rfl) (by omega) ?_
        refine r_istore_n C dX11_sets_48 rfl rfl ?_
        refine r_aload_n C dX11_sets_49 rfl ?_
        refine gf_X11_7 C dX11_sets_50 hm.1 (hm.k (by decide)) ?_
        refine r_bipush C dX11_sets_53 bp_13 ?_
        refine r_iload_n C dX11_sets_55 rfl ?_
        refine r_iadd C dX11_sets_56 ?_
        refine r_iload_n C dX11_sets_57 rfl ?_
        refine r_sst C dX11_sets_58 hm (j := (13 + j)) (na_add kn_13 rfl) (by omega) ?_
        refine r_iload_n C dX11_sets_59 rfl ?_
        exact hE _ _ _ _ dX11_sets_60 (by rw [mSets, if_neg c_6, nc]; first | (rw [if_pos c_10, if_neg c_20]; exact And.intro rfl rfl) | (rw [if_neg c_10, if_neg c_34]; exact And.intro rfl rfl))
set_option maxRecDepth 100000 in
set_option maxHeartbeats 4000000 in
theorem c_X11_acknowledges {g : mG} {l : Launch} {tpl : mT} {b n : Nat} {v : mV} {σ : Nat → Int32} (hm : isM g tpl b n) (hI : MI σ) (x : Int32) : CT g l tpl b n yX11_acknowledges cX11_acknowledges 4 (some .int) rm_X11_acknowledges [.ref (b + 0), .int x] (sv v σ) (pI (mAcks σ x).1 (sv v (mAcks σ x).2)) := by
  refine CT.introI [some (.ref (b + 0)), some (.int x), none, none] (own := RX11) (by decide +kernel) rfl rfl rfl rfl ?_
  intro p e s m args below meth c Q C hE
  refine r_aload_n C dX11_acknowledges_0 rfl ?_
  refine r_iload_n C dX11_acknowledges_1 rfl ?_
  refine cvI_X11_70 C dX11_acknowledges_2 (c_X11_isIncident hm _) hm.1 (hm.k (by decide)) ⟨rfl, rfl⟩ rfl rfl rfl ?_
  refine r_if_ne (tgt := 10) C dX11_acknowledges_5 rfl (fun c_5 => ?_) (fun c_5 => ?_)
  · skip
    obtain ⟨j, hj, rfl⟩ := mInc_of c_5
    have nc : (nI j).toNatClampNeg = j := nI_clamp (by omega)
    refine r_iload_n C dX11_acknowledges_10 rfl ?_
    refine cvI_X11_36 C dX11_acknowledges_11 (c_X11_incidentAt _) ⟨rfl, rfl⟩ rfl rfl rfl ?_
    refine r_istore_n C dX11_acknowledges_14 rfl rfl ?_
    refine r_aload_n C dX11_acknowledges_15 rfl ?_
    refine gf_X11_7 C dX11_acknowledges_16 hm.1 (hm.k (by decide)) ?_
    refine r_iload_n C dX11_acknowledges_19 rfl ?_
    refine r_iconst C dX11_acknowledges_20 ic_4 ?_
    refine r_iadd C dX11_acknowledges_21 ?_
    refine r_sld C dX11_acknowledges_22 hm (j := ((101 + 16 * j) + 4)) (na_add (na_add kn_101 (na_mul kn_16 rfl)) kn_4) (by omega) ?_
    refine r_if_eq (tgt := 38) C dX11_acknowledges_23 rfl (fun c_23 => ?_) (fun c_23 => ?_)
    · skip
      refine r_bipush C dX11_acknowledges_38 bp_m2 ?_
      exact hE _ _ _ _ dX11_acknowledges_40 (by simp (disch := omega) [pI, pV, mAcks, c_5, nc, c_23, upd_o, upd_r])
    · skip
      refine r_aload_n C dX11_acknowledges_26 rfl ?_
      refine gf_X11_7 C dX11_acknowledges_27 hm.1 (hm.k (by decide)) ?_
      refine r_iload_n C dX11_acknowledges_30 rfl ?_
      refine r_iconst C dX11_acknowledges_31 ic_5 ?_
      refine r_iadd C dX11_acknowledges_32 ?_
      refine r_sld C dX11_acknowledges_33 hm (j := ((101 + 16 * j) + 5)) (na_add (na_add kn_101 (na_mul kn_16 rfl)) kn_5) (by omega) ?_
      refine r_iconst C dX11_acknowledges_34 ic_1 ?_
      refine r_icmp_ne (tgt := 41) C dX11_acknowledges_35 rfl (fun c_35 => ?_) (fun c_35 => ?_)
      · skip
        refine r_aload_n C dX11_acknowledges_41 rfl ?_
        refine gf_X11_7 C dX11_acknowledges_42 hm.1 (hm.k (by decide)) ?_
        refine r_iconst C dX11_acknowledges_45 ic_2 ?_
        refine r_sld C dX11_acknowledges_46 hm (j := 2) kn_2 (by omega) ?_
        refine r_aload_n C dX11_acknowledges_47 rfl ?_
        refine gf_X11_7 C dX11_acknowledges_48 hm.1 (hm.k (by decide)) ?_
        refine r_iload_n C dX11_acknowledges_51 rfl ?_
        refine r_bipush C dX11_acknowledges_52 bp_10 ?_
        refine r_iadd C dX11_acknowledges_54 ?_
        refine r_sld C dX11_acknowledges_55 hm (j := ((101 + 16 * j) + 10)) (na_add (na_add kn_101 (na_mul kn_16 rfl)) kn_10) (by omega) ?_
        refine r_isub C dX11_acknowledges_56 ?_
        refine r_istore_n C dX11_acknowledges_57 rfl rfl ?_
        refine r_aload_n C dX11_acknowledges_58 rfl ?_
        refine gf_X11_7 C dX11_acknowledges_59 hm.1 (hm.k (by decide)) ?_
        refine r_iload_n C dX11_acknowledges_62 rfl ?_
        refine r_iconst C dX11_acknowledges_63 ic_5 ?_
        refine r_iadd C dX11_acknowledges_64 ?_
        refine r_iconst C dX11_acknowledges_65 ic_1 ?_
        refine r_sst C dX11_acknowledges_66 hm (j := ((101 + 16 * j) + 5)) (na_add (na_add kn_101 (na_mul kn_16 rfl)) kn_5) (by omega) ?_
        refine r_aload_n C dX11_acknowledges_67 rfl ?_
        refine gf_X11_7 C dX11_acknowledges_68 hm.1 (hm.k (by decide)) ?_
        refine r_bipush C dX11_acknowledges_71 bp_11 ?_
        refine r_dup2 C dX11_acknowledges_73 rfl rfl ?_
        refine r_sld C dX11_acknowledges_74 hm (j := 11) kn_11 (by omega) ?_
        refine r_iload_n C dX11_acknowledges_75 rfl ?_
        refine r_iadd C dX11_acknowledges_76 ?_
        refine r_sst C dX11_acknowledges_77 hm (j := 11) kn_11 (by omega) ?_
        refine r_aload_n C dX11_acknowledges_78 rfl ?_
        refine gf_X11_7 C dX11_acknowledges_79 hm.1 (hm.k (by decide)) ?_
        refine r_bipush C dX11_acknowledges_82 bp_12 ?_
        refine r_dup2 C dX11_acknowledges_84 rfl rfl ?_
        refine r_sld C dX11_acknowledges_85 hm (j := 12) kn_12 (by omega) ?_
        refine r_iconst C dX11_acknowledges_86 ic_1 ?_
        refine r_iadd C dX11_acknowledges_87 ?_
        refine r_sst C dX11_acknowledges_88 hm (j := 12) kn_12 (by omega) ?_
        refine r_iload_n C dX11_acknowledges_89 rfl ?_
        exact hE _ _ _ _ dX11_acknowledges_90 (by simp (disch := omega) [pI, pV, mAcks, c_5, nc, c_23, c_35, upd_o, upd_r])
      · skip
        refine r_bipush C dX11_acknowledges_38 bp_m2 ?_
        exact hE _ _ _ _ dX11_acknowledges_40 (by simp (disch := omega) [pI, pV, mAcks, c_5, nc, c_23, c_35, upd_o, upd_r])
  · skip
    refine r_iconst C dX11_acknowledges_8 ic_m1 ?_
    exact hE _ _ _ _ dX11_acknowledges_9 (by simp (disch := omega) [pI, pV, mAcks, c_5, upd_o, upd_r])
set_option maxRecDepth 100000 in
set_option maxHeartbeats 4000000 in
theorem c_X11_resolves {g : mG} {l : Launch} {tpl : mT} {b n : Nat} {v : mV} {σ : Nat → Int32} (hm : isM g tpl b n) (hI : MI σ) (x : Int32) : CT g l tpl b n yX11_resolves cX11_resolves 4 (some .int) rm_X11_resolves [.ref (b + 0), .int x] (sv v σ) (pI (mResolves σ x).1 (sv v (mResolves σ x).2)) := by
  refine CT.introI [some (.ref (b + 0)), some (.int x), none, none] (own := RX11) (by decide +kernel) rfl rfl rfl rfl ?_
  intro p e s m args below meth c Q C hE
  refine r_aload_n C dX11_resolves_0 rfl ?_
  refine r_iload_n C dX11_resolves_1 rfl ?_
  refine cvI_X11_70 C dX11_resolves_2 (c_X11_isIncident hm _) hm.1 (hm.k (by decide)) ⟨rfl, rfl⟩ rfl rfl rfl ?_
  refine r_if_ne (tgt := 10) C dX11_resolves_5 rfl (fun c_5 => ?_) (fun c_5 => ?_)
  · skip
    obtain ⟨j, hj, rfl⟩ := mInc_of c_5
    have nc : (nI j).toNatClampNeg = j := nI_clamp (by omega)
    refine r_iload_n C dX11_resolves_10 rfl ?_
    refine cvI_X11_36 C dX11_resolves_11 (c_X11_incidentAt _) ⟨rfl, rfl⟩ rfl rfl rfl ?_
    refine r_istore_n C dX11_resolves_14 rfl rfl ?_
    refine r_aload_n C dX11_resolves_15 rfl ?_
    refine gf_X11_7 C dX11_resolves_16 hm.1 (hm.k (by decide)) ?_
    refine r_iconst C dX11_resolves_19 ic_2 ?_
    refine r_sld C dX11_resolves_20 hm (j := 2) kn_2 (by omega) ?_
    refine r_aload_n C dX11_resolves_21 rfl ?_
    refine gf_X11_7 C dX11_resolves_22 hm.1 (hm.k (by decide)) ?_
    refine r_iload_n C dX11_resolves_25 rfl ?_
    refine r_bipush C dX11_resolves_26 bp_7 ?_
    refine r_iadd C dX11_resolves_28 ?_
    refine r_sld C dX11_resolves_29 hm (j := ((101 + 16 * j) + 7)) (na_add (na_add kn_101 (na_mul kn_16 rfl)) kn_7) (by omega) ?_
    refine r_isub C dX11_resolves_30 ?_
    refine r_istore_n C dX11_resolves_31 rfl rfl ?_
    refine r_aload_n C dX11_resolves_32 rfl ?_
    refine gf_X11_7 C dX11_resolves_33 hm.1 (hm.k (by decide)) ?_
    refine r_iload_n C dX11_resolves_36 rfl ?_
    refine r_iconst C dX11_resolves_37 ic_4 ?_
    refine r_iadd C dX11_resolves_38 ?_
    refine r_sld C dX11_resolves_39 hm (j := ((101 + 16 * j) + 4)) (na_add (na_add kn_101 (na_mul kn_16 rfl)) kn_4) (by omega) ?_
    refine r_if_le (tgt := 69) C dX11_resolves_40 rfl (fun c_40 => ?_) (fun c_40 => ?_)
    · skip
      refine r_aload_n C dX11_resolves_69 rfl ?_
      refine gf_X11_7 C dX11_resolves_70 hm.1 (hm.k (by decide)) ?_
      refine r_iload_n C dX11_resolves_73 rfl ?_
      refine r_iconst C dX11_resolves_74 ic_0 ?_
      refine r_iadd C dX11_resolves_75 ?_
      refine r_iconst C dX11_resolves_76 ic_0 ?_
      refine r_sst C dX11_resolves_77 hm (j := (101 + 16 * j)) (na_add0 (na_add kn_101 (na_mul kn_16 rfl)) kn_0) (by omega) ?_
      refine r_aload_n C dX11_resolves_78 rfl ?_
      refine gf_X11_7 C dX11_resolves_79 hm.1 (hm.k (by decide)) ?_
      refine r_bipush C dX11_resolves_82 bp_10 ?_
      refine r_dup2 C dX11_resolves_84 rfl rfl ?_
      refine r_sld C dX11_resolves_85 hm (j := 10) kn_10 (by omega) ?_
      refine r_iload_n C dX11_resolves_86 rfl ?_
      refine r_iadd C dX11_resolves_87 ?_
      refine r_sst C dX11_resolves_88 hm (j := 10) kn_10 (by omega) ?_
      refine r_aload_n C dX11_resolves_89 rfl ?_
      refine gf_X11_7 C dX11_resolves_90 hm.1 (hm.k (by decide)) ?_
      refine r_bipush C dX11_resolves_93 bp_6 ?_
      refine r_dup2 C dX11_resolves_95 rfl rfl ?_
      refine r_sld C dX11_resolves_96 hm (j := 6) kn_6 (by omega) ?_
      refine r_iconst C dX11_resolves_97 ic_1 ?_
      refine r_iadd C dX11_resolves_98 ?_
      refine r_sst C dX11_resolves_99 hm (j := 6) kn_6 (by omega) ?_
      refine r_iload_n C dX11_resolves_100 rfl ?_
      exact hE _ _ _ _ dX11_resolves_101 (by simp (disch := omega) [pI, pV, mResolves, mRes3, c_5, nc, c_40, upd_o, upd_r])
    · skip
      obtain ⟨w, hw, ew⟩ := hI.2.2.2.2.2.2.2 j hj
      have hw0 : 0 < w := by rw [ew] at c_40; exact (na_lt kn_0 rfl (by omega) (by omega)).mp c_40
      have ew1 : σ (101 + 16 * j + 4) - 1 = nI (w - 1) := by rw [ew, show w = w - 1 + 1 by omega, nI_pred, Nat.add_sub_cancel]
      have nw : (σ (101 + 16 * j + 4) - 1).toNatClampNeg = w - 1 := by rw [ew1]; exact nI_clamp (by omega)
      refine r_aload_n C dX11_resolves_43 rfl ?_
      refine gf_X11_7 C dX11_resolves_44 hm.1 (hm.k (by decide)) ?_
      refine r_bipush C dX11_resolves_47 bp_16 ?_
      refine r_iconst C dX11_resolves_49 ic_5 ?_
      refine r_aload_n C dX11_resolves_50 rfl ?_
      refine gf_X11_7 C dX11_resolves_51 hm.1 (hm.k (by decide)) ?_
      refine r_iload_n C dX11_resolves_54 rfl ?_
      refine r_iconst C dX11_resolves_55 ic_4 ?_
      refine r_iadd C dX11_resolves_56 ?_
      refine r_sld C dX11_resolves_57 hm (j := ((101 + 16 * j) + 4)) (na_add (na_add kn_101 (na_mul kn_16 rfl)) kn_4) (by omega) ?_
      refine r_iconst C dX11_resolves_58 ic_1 ?_
      refine r_isub C dX11_resolves_59 ?_
      refine r_imul C dX11_resolves_60 ?_
      refine r_iadd C dX11_resolves_61 ?_
      refine r_iconst C dX11_resolves_62 ic_4 ?_
      refine r_iadd C dX11_resolves_63 ?_
      refine r_dup2 C dX11_resolves_64 rfl rfl ?_
      refine r_sld C dX11_resolves_65 hm (j := ((16 + (5 * (w - 1))) + 4)) (na_add (na_add kn_16 (na_mul kn_5 ew1)) kn_4) (by omega) ?_
      refine r_iconst C dX11_resolves_66 ic_1 ?_
      refine r_iadd C dX11_resolves_67 ?_
      refine r_sst C dX11_resolves_68 hm (j := ((16 + (5 * (w - 1))) + 4)) (na_add (na_add kn_16 (na_mul kn_5 ew1)) kn_4) (by omega) ?_
      refine r_aload_n C dX11_resolves_69 rfl ?_
      refine gf_X11_7 C dX11_resolves_70 hm.1 (hm.k (by decide)) ?_
      refine r_iload_n C dX11_resolves_73 rfl ?_
      refine r_iconst C dX11_resolves_74 ic_0 ?_
      refine r_iadd C dX11_resolves_75 ?_
      refine r_iconst C dX11_resolves_76 ic_0 ?_
      refine r_sst C dX11_resolves_77 hm (j := (101 + 16 * j)) (na_add0 (na_add kn_101 (na_mul kn_16 rfl)) kn_0) (by omega) ?_
      refine r_aload_n C dX11_resolves_78 rfl ?_
      refine gf_X11_7 C dX11_resolves_79 hm.1 (hm.k (by decide)) ?_
      refine r_bipush C dX11_resolves_82 bp_10 ?_
      refine r_dup2 C dX11_resolves_84 rfl rfl ?_
      refine r_sld C dX11_resolves_85 hm (j := 10) kn_10 (by omega) ?_
      refine r_iload_n C dX11_resolves_86 rfl ?_
      refine r_iadd C dX11_resolves_87 ?_
      refine r_sst C dX11_resolves_88 hm (j := 10) kn_10 (by omega) ?_
      refine r_aload_n C dX11_resolves_89 rfl ?_
      refine gf_X11_7 C dX11_resolves_90 hm.1 (hm.k (by decide)) ?_
      refine r_bipush C dX11_resolves_93 bp_6 ?_
      refine r_dup2 C dX11_resolves_95 rfl rfl ?_
      refine r_sld C dX11_resolves_96 hm (j := 6) kn_6 (by omega) ?_
      refine r_iconst C dX11_resolves_97 ic_1 ?_
      refine r_iadd C dX11_resolves_98 ?_
      refine r_sst C dX11_resolves_99 hm (j := 6) kn_6 (by omega) ?_
      refine r_iload_n C dX11_resolves_100 rfl ?_
      exact hE _ _ _ _ dX11_resolves_101 (by simp (disch := omega) [pI, pV, mResolves, mRes3, c_5, nc, c_40, nw, upd_o, upd_r])
  · skip
    refine r_iconst C dX11_resolves_8 ic_m1 ?_
    exact hE _ _ _ _ dX11_resolves_9 (by simp (disch := omega) [pI, pV, mResolves, mRes3, c_5, upd_o, upd_r])
