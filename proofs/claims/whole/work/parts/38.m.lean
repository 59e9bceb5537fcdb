/-! ===== the reference: overrides, alerts ===== -/
def mCpLp (n k : Nat) : Nat → Nat → (Nat → Int32) → Nat → Int32
  | 0, _, σ => σ
  | r + 1, i, σ => mCpLp n k r (i + 1) (upd σ (83 + 3 * n + i) (σ (83 + 3 * k + i)))
theorem mCpLp_o {n k q : Nat} : ∀ (r i : Nat) (σ : Nat → Int32), (q < 83 + 3 * n + i ∨ 83 + 3 * n + i + r ≤ q) → mCpLp n k r i σ q = σ q
  | 0, _, _, _ => rfl
  | r + 1, i, σ, h => by rw [mCpLp, mCpLp_o r (i + 1) _ (by omega), upd_o (by omega)]
def mClrLp : Nat → Nat → Nat → (Nat → Int32) → Nat × (Nat → Int32)
  | 0, _, n, σ => (n, σ)
  | r + 1, k, n, σ => if σ 2 < σ (83 + 3 * k + 2) then mClrLp r (k + 1) (n + 1) (mCpLp n k 3 0 σ) else mClrLp r (k + 1) n σ
theorem mClrLp_le : ∀ (r k n : Nat) (σ : Nat → Int32), (mClrLp r k n σ).1 ≤ n + r
  | 0, _, _, _ => Nat.le_refl _
  | r + 1, k, n, σ => by
    unfold mClrLp
    split
    · have := mClrLp_le r (k + 1) (n + 1) (mCpLp n k 3 0 σ); omega
    · have := mClrLp_le r (k + 1) n σ; omega
theorem mClrLp_o {q : Nat} : ∀ (r k n : Nat) (σ : Nat → Int32), n ≤ k → k + r ≤ 6 → (q < 83 ∨ 101 ≤ q) → (mClrLp r k n σ).2 q = σ q
  | 0, _, _, _, _, _, _ => rfl
  | r + 1, k, n, σ, hn, hk, hq => by
    unfold mClrLp
    split
    · rw [mClrLp_o r (k + 1) (n + 1) _ (by omega) (by omega) hq, mCpLp_o 3 0 σ (by omega)]
    · exact mClrLp_o r (k + 1) n σ (by omega) (by omega) hq
def mClears (σ : Nat → Int32) : Nat → Int32 := upd (mClrLp (σ 15).toNatClampNeg 0 0 σ).2 15 (nI (mClrLp (σ 15).toNatClampNeg 0 0 σ).1)
/-- how many are in force, counted, and as many are kept -/
theorem mFrc_clr : ∀ (r k n : Nat) (σ τ : Nat → Int32), n ≤ k → k + r ≤ 6 → (∀ q, 83 + 3 * k ≤ q ∨ q < 83 → τ q = σ q) → mFrcLp σ r k (nI n) = nI (mClrLp r k n τ).1
  | 0, _, _, _, _, _, _, _ => rfl
  | r + 1, k, n, σ, τ, hn, hk, h => by
    unfold mFrcLp mClrLp
    rw [h 2 (by omega), h (83 + 3 * k + 2) (by omega)]
    by_cases hc : σ 2 < σ (83 + 3 * k + 2)
    · rw [if_pos hc, if_pos hc, nI_1]
      refine mFrc_clr r (k + 1) (n + 1) σ _ (by omega) (by omega) (fun q hq => ?_)
      rw [mCpLp_o 3 0 τ (by omega), h q (by omega)]
    · rw [if_neg hc, if_neg hc, Int32.add_zero]
      exact mFrc_clr r (k + 1) n σ τ (by omega) (by omega) (fun q hq => h q (by omega))
theorem mForce_n {σ : Nat → Int32} (hI : MI σ) : mForce σ = nI (mClrLp (σ 15).toNatClampNeg 0 0 σ).1 ∧ (mClrLp (σ 15).toNatClampNeg 0 0 σ).1 ≤ 6 := by
  obtain ⟨O, hO, eO⟩ := hI.2.2.2.1
  unfold mForce
  rw [eO, nI_clamp (show O < 2 ^ 31 by omega)]
  refine ⟨?_, by have := mClrLp_le O 0 0 σ; omega⟩
  exact (congrArg (mFrcLp σ O 0) nI_0.symm).trans (mFrc_clr O 0 0 σ σ (Nat.le_refl 0) (by omega) (fun _ _ => rfl))
def mOvr4 (τ : Nat → Int32) (n : Nat) (x y z : Int32) : Nat → Int32 := upd (upd (upd (upd τ (83 + 3 * n) x) (83 + 3 * n + 1) y) (83 + 3 * n + 2) (τ 2 + 60 * z)) 15 (τ 15 + 1)
def mOverrides (σ : Nat → Int32) (x y z : Int32) : Int32 × (Nat → Int32) := if mIn x 0 (σ 1 - 1) = 0 then (-1, σ) else if mIn y 0 (σ 0 - 1) = 0 then (-1, σ) else if mIn z 1 99 = 0 then (-1, σ) else if mForce σ = 6 then (-3, σ) else
  (mClears σ 15 + 1, mOvr4 (mClears σ) (mClears σ 15).toNatClampNeg x y z)
theorem mClears_15 {σ : Nat → Int32} : mClears σ 15 = nI (mClrLp (σ 15).toNatClampNeg 0 0 σ).1 := by unfold mClears; exact upd_r
def mFolLp (σ : Nat → Int32) (c : Int32) : Nat → Nat → Int32
  | 0, _ => -1
  | r + 1, i => if mInc σ (nI i) = 0 then mFolLp σ c r (i + 1) else if σ (101 + 16 * i + 1) = c then (if σ 14 < σ 2 - σ (101 + 16 * i + 8) then mFolLp σ c r (i + 1) else nI i) else mFolLp σ c r (i + 1)
theorem mFolLp_or (σ : Nat → Int32) (c : Int32) : ∀ (r i : Nat), i + r = 8 → mFolLp σ c r i = -1 ∨ ∃ j, j < 8 ∧ mFolLp σ c r i = nI j
  | 0, _, _ => Or.inl rfl
  | r + 1, i, h => by
    unfold mFolLp
    split
    · exact mFolLp_or σ c r (i + 1) (by omega)
    · split
      · split
        · exact mFolLp_or σ c r (i + 1) (by omega)
        · exact Or.inr ⟨i, by omega, rfl⟩
      · exact mFolLp_or σ c r (i + 1) (by omega)
/-- the lowest free number, read from above -/
def mFreeLp (σ : Nat → Int32) : Nat → Int32 → Int32
  | 0, f => f
  | r + 1, f => mFreeLp σ r (if mInc σ (nI r) = 0 then nI r else f)
theorem mFreeLp_or (σ : Nat → Int32) : ∀ (r : Nat) (f : Int32), r ≤ 8 → (f = -1 ∨ ∃ j, j < 8 ∧ f = nI j) → mFreeLp σ r f = -1 ∨ ∃ j, j < 8 ∧ mFreeLp σ r f = nI j
  | 0, _, _, h => h
  | r + 1, f, hr, h => by
    unfold mFreeLp
    refine mFreeLp_or σ r _ (by omega) ?_
    split
    · exact Or.inr ⟨r, by omega, rfl⟩
    · exact h
def mZeroLp (j : Nat) : Nat → Nat → (Nat → Int32) → Nat → Int32
  | 0, _, σ => σ
  | r + 1, i, σ => mZeroLp j r (i + 1) (upd σ (101 + 16 * j + i) 0)
theorem mZeroLp_o {j q : Nat} : ∀ (r i : Nat) (σ : Nat → Int32), (q < 101 + 16 * j + i ∨ 101 + 16 * j + i + r ≤ q) → mZeroLp j r i σ q = σ q
  | 0, _, _, _ => rfl
  | r + 1, i, σ, h => by rw [mZeroLp, mZeroLp_o r (i + 1) _ (by omega), upd_o (by omega)]
theorem mZeroLp_i {j q : Nat} : ∀ (r i : Nat) (σ : Nat → Int32), 101 + 16 * j + i ≤ q → q < 101 + 16 * j + i + r → mZeroLp j r i σ q = 0
  | 0, _, _, h1, h2 => absurd h2 (by omega)
  | r + 1, i, σ, h1, h2 => by
    rw [mZeroLp]
    by_cases h : q = 101 + 16 * j + i
    · rw [mZeroLp_o r (i + 1) _ (by omega), h, upd_r]
    · exact mZeroLp_i r (i + 1) _ (by omega) (by omega)
def mNew (σ : Nat → Int32) (j : Nat) (x y : Int32) : Nat → Int32 := upd (upd (upd (upd (upd (upd (upd (mZeroLp j 16 0 σ) (101 + 16 * j) 1) (101 + 16 * j + 1) x) (101 + 16 * j + 2) y) (101 + 16 * j + 6) 1) (101 + 16 * j + 7) (σ 2)) (101 + 16 * j + 8) (σ 2)) 3 (σ 3 + 1)
def mOpens (σ : Nat → Int32) (x y : Int32) : Int32 × (Nat → Int32) := if mFreeLp σ 8 (-1) < 0 then (-3, σ) else (mFreeLp σ 8 (-1), mPage (mNew σ (mFreeLp σ 8 (-1)).toNatClampNeg x y) (mFreeLp σ 8 (-1)).toNatClampNeg)
theorem MI_zero {σ : Nat → Int32} {j : Nat} (hI : MI σ) : ∀ (r i : Nat), i + r ≤ 16 → MI (mZeroLp j r i σ) := by
  intro r
  induction r generalizing σ with
  | zero => intro i _; exact hI
  | succ r ih =>
    intro i hi
    rw [mZeroLp]
    refine ih ?_ (i + 1) (by omega)
    by_cases h3 : i = 3
    · subst h3; exact MI_lvl (l := 0) hI (by omega)
    · by_cases h4 : i = 4
      · subst h4; exact MI_own (w := 0) hI (by omega)
      · exact MI_free hI (by omega) (by omega)
theorem MI_new {σ : Nat → Int32} {j : Nat} {x y : Int32} (hI : MI σ) : MI (mNew σ j x y) :=
  MI_free (MI_free (MI_free (MI_free (MI_free (MI_free (MI_free (MI_zero hI 16 0 (by omega)) (by omega) (by omega)) (by omega) (by omega)) (by omega) (by omega)) (by omega) (by omega)) (by omega) (by omega)) (by omega) (by omega)) (by omega) (by omega)
def mFold (σ : Nat → Int32) (j : Nat) (y : Int32) : Nat → Int32 := upd (upd (upd (upd (upd σ (101 + 16 * j + 2) (if σ (101 + 16 * j + 2) < y then y else σ (101 + 16 * j + 2))) (101 + 16 * j + 8) (σ 2)) (101 + 16 * j + 6) (σ (101 + 16 * j + 6) + 1)) 3 (σ 3 + 1)) 4 (σ 4 + 1)
theorem mFold_4 {σ : Nat → Int32} {j : Nat} {y : Int32} : mFold σ j y (101 + 16 * j + 4) = σ (101 + 16 * j + 4) := by
  unfold mFold
  simp (disch := omega) only [upd_o]
theorem MI_fold {σ : Nat → Int32} {j : Nat} {y : Int32} (hI : MI σ) : MI (mFold σ j y) :=
  MI_free (MI_free (MI_free (MI_free (MI_free hI (by omega) (by omega)) (by omega) (by omega)) (by omega) (by omega)) (by omega) (by omega)) (by omega) (by omega)
def mAlerts (σ : Nat → Int32) (x y : Int32) : Int32 × (Nat → Int32) := if mIn x 0 19 = 0 then (-1, σ) else if mIn y 0 2 = 0 then (-1, σ) else if mFolLp σ x 8 0 < 0 then mOpens σ x y else
  (mFolLp σ x 8 0, if σ (101 + 16 * (mFolLp σ x 8 0).toNatClampNeg + 2) < y then (if σ (101 + 16 * (mFolLp σ x 8 0).toNatClampNeg + 4) = 0 then mPage (mFold σ (mFolLp σ x 8 0).toNatClampNeg y) (mFolLp σ x 8 0).toNatClampNeg else mFold σ (mFolLp σ x 8 0).toNatClampNeg y) else mFold σ (mFolLp σ x 8 0).toNatClampNeg y)
set_option maxRecDepth 100000 in
set_option maxHeartbeats 4000000 in
theorem c_X11_foldsInto {g : mG} {l : Launch} {tpl : mT} {b n : Nat} {v : mV} {σ : Nat → Int32} (hm : isM g tpl b n) (x : Int32) : CT g l tpl b n yX11_foldsInto cX11_foldsInto 4 (some .int) rm_X11_foldsInto [.ref (b + 0), .int x] (sv v σ) (pI (mFolLp σ x 8 0) (sv v σ)) := by
  refine CT.introI [some (.ref (b + 0)), some (.int x), none, none] (own := RX11) (by decide +kernel) rfl rfl rfl rfl ?_
  intro p e s m args below meth c Q C hE
  refine r_iconst C dX11_foldsInto_0 ic_0 ?_
  refine r_istore_n C dX11_foldsInto_1 rfl rfl ?_
  have loop_2 : ∀ (r : Nat) (i : Nat) (z : Option Value), (i + r = 8) → (mFolLp σ x r i = mFolLp σ x 8 0) → WM g p l e rm_X11_foldsInto s m args below meth c Q tpl b n (sv v σ) 2 [some (.ref (b + 0)), some (.int x), some (.int (nI i)), z] [] := by
    intro r
    induction r with
    | zero =>
      intro i z hi hR
      refine r_iload_n C dX11_foldsInto_2 rfl ?_
      refine r_bipush C dX11_foldsInto_3 bp_8 ?_
      refine r_icmp_ge (tgt := 67) C dX11_foldsInto_5 rfl (fun c_5 => ?_) (fun c_5 => ?_)
      · skip
        refine r_iconst C dX11_foldsInto_67 ic_m1 ?_
        exact hE _ _ _ _ dX11_foldsInto_68 (by rw [← hR]; simp [pI, mFolLp, c_5])
      · exact absurd c_5 (nI_nlt (a := i) (b := 8) (by omega) (by omega))
    | succ r ih_2 =>
      intro i z hi hR
      refine r_iload_n C dX11_foldsInto_2 rfl ?_
      refine r_bipush C dX11_foldsInto_3 bp_8 ?_
      refine r_icmp_ge (tgt := 67) C dX11_foldsInto_5 rfl (fun c_5 => ?_) (fun c_5 => ?_)
      · exact absurd (nI_lt (a := i) (b := 8) (by omega) (by omega)) c_5
      · skip
        refine r_iload_n C dX11_foldsInto_8 rfl ?_
        refine cvI_X11_36 C dX11_foldsInto_9 (c_X11_incidentAt _) ⟨rfl, rfl⟩ rfl rfl rfl ?_
        refine r_istore_n C dX11_foldsInto_12 rfl rfl ?_
        refine r_aload_n C dX11_foldsInto_13 rfl ?_
        refine r_iload_n C dX11_foldsInto_14 rfl ?_
        refine cvI_X11_70 C dX11_foldsInto_15 (c_X11_isIncident hm _) hm.1 (hm.k (by decide)) ⟨rfl, rfl⟩ rfl rfl rfl ?_
        refine r_if_eq (tgt := 61) C dX11_foldsInto_18 rfl (fun c_18 => ?_) (fun c_18 => ?_)
        · skip
          refine r_iinc C dX11_foldsInto_61 rfl (nI_inc _) rfl ?_
          refine r_goto (tgt := 2) C dX11_foldsInto_64 rfl ?_
          exact ih_2 (i + 1) _ (by omega) (by rw [← hR]; simp [mFolLp, c_5, c_18])
        · skip
          refine r_aload_n C dX11_foldsInto_21 rfl ?_
          refine gf_X11_7 C dX11_foldsInto_22 hm.1 (hm.k (by decide)) ?_
          refine r_iload_n C dX11_foldsInto_25 rfl ?_
          refine r_iconst C dX11_foldsInto_26 ic_1 ?_
          refine r_iadd C dX11_foldsInto_27 ?_
          refine r_sld C dX11_foldsInto_28 hm (j := ((101 + 16 * i) + 1)) (na_add (na_add kn_101 (na_mul kn_16 rfl)) kn_1) (by omega) ?_
          refine r_iload_n C dX11_foldsInto_29 rfl ?_
          refine r_icmp_ne (tgt := 61) C dX11_foldsInto_30 rfl (fun c_30 => ?_) (fun c_30 => ?_)
          · skip
            refine r_iinc C dX11_foldsInto_61 rfl (nI_inc _) rfl ?_
            refine r_goto (tgt := 2) C dX11_foldsInto_64 rfl ?_
            exact ih_2 (i + 1) _ (by omega) (by rw [← hR]; simp [mFolLp, c_5, c_18, c_30])
          · skip
            refine r_aload_n C dX11_foldsInto_33 rfl ?_
            refine gf_X11_7 C dX11_foldsInto_34 hm.1 (hm.k (by decide)) ?_
            refine r_iconst C dX11_foldsInto_37 ic_2 ?_
            refine r_sld C dX11_foldsInto_38 hm (j := 2) kn_2 (by omega) ?_
            refine r_aload_n C dX11_foldsInto_39 rfl ?_
            refine gf_X11_7 C dX11_foldsInto_40 hm.1 (hm.k (by decide)) ?_
            refine r_iload_n C dX11_foldsInto_43 rfl ?_
            refine r_bipush C dX11_foldsInto_44 bp_8 ?_
            refine r_iadd C dX11_foldsInto_46 ?_
            refine r_sld C dX11_foldsInto_47 hm (j := ((101 + 16 * i) + 8)) (na_add (na_add kn_101 (na_mul kn_16 rfl)) kn_8) (by omega) ?_
            refine r_isub C dX11_foldsInto_48 ?_
            refine r_aload_n C dX11_foldsInto_49 rfl ?_
            refine gf_X11_7 C dX11_foldsInto_50 hm.1 (hm.k (by decide)) ?_
            refine r_bipush C dX11_foldsInto_53 bp_14 ?_
            refine r_sld C dX11_foldsInto_55 hm (j := 14) kn_14 (by omega) ?_
            refine r_icmp_gt (tgt := 61) C dX11_foldsInto_56 rfl (fun c_56 => ?_) (fun c_56 => ?_)
            · skip
              refine r_iinc C dX11_foldsInto_61 rfl (nI_inc _) rfl ?_
              refine r_goto (tgt := 2) C dX11_foldsInto_64 rfl ?_
              exact ih_2 (i + 1) _ (by omega) (by rw [← hR]; simp [mFolLp, c_5, c_18, c_30, c_56])
            · skip
              refine r_iload_n C dX11_foldsInto_59 rfl ?_
              exact hE _ _ _ _ dX11_foldsInto_60 (by rw [← hR]; simp [pI, mFolLp, c_5, c_18, c_30, c_56])
  exact loop_2 8 0 none rfl rfl
set_option maxRecDepth 100000 in
set_option maxHeartbeats 4000000 in
theorem c_X11_lowestFree {g : mG} {l : Launch} {tpl : mT} {b n : Nat} {v : mV} {σ : Nat → Int32} (hm : isM g tpl b n) : CT g l tpl b n yX11_lowestFree cX11_lowestFree 3 (some .int) rm_X11_lowestFree [.ref (b + 0)] (sv v σ) (pI (mFreeLp σ 8 (-1)) (sv v σ)) := by
  refine CT.introI [some (.ref (b + 0)), none, none] (own := RX11) (by decide +kernel) rfl rfl rfl rfl ?_
  intro p e s m args below meth c Q C hE
  refine r_iconst C dX11_lowestFree_0 ic_m1 ?_
  refine r_istore_n C dX11_lowestFree_1 rfl rfl ?_
  refine r_bipush C dX11_lowestFree_2 bp_7 ?_
  refine r_istore_n C dX11_lowestFree_4 rfl rfl ?_
  have loop_5 : ∀ (r : Nat) (f : Int32), (r ≤ 8) → (mFreeLp σ r f = mFreeLp σ 8 (-1)) → WM g p l e rm_X11_lowestFree s m args below meth c Q tpl b n (sv v σ) 5 [some (.ref (b + 0)), some (.int f), some (.int (nI r - 1))] [] := by
    intro r
    induction r with
    | zero =>
      intro f hr hR
      refine r_iload_n C dX11_lowestFree_5 rfl ?_
      refine r_if_lt (tgt := 29) C dX11_lowestFree_6 rfl (fun c_6 => ?_) (fun c_6 => ?_)
      · skip
        refine r_iload_n C dX11_lowestFree_29 rfl ?_
        exact hE _ _ _ _ dX11_lowestFree_30 (by rw [← hR]; exact And.intro rfl rfl)
      · exact absurd (by rw [nI_0]; decide) c_6
    | succ r ih_5 =>
      intro f hr hR
      refine r_iload_n C dX11_lowestFree_5 rfl ?_
      refine r_if_lt (tgt := 29) C dX11_lowestFree_6 rfl (fun c_6 => ?_) (fun c_6 => ?_)
      · exact absurd c_6 (by rw [nI_pred]; exact nI_pos (by omega))
      · skip
        refine r_aload_n C dX11_lowestFree_9 rfl ?_
        refine r_iload_n C dX11_lowestFree_10 rfl ?_
        refine cvI_X11_70 C dX11_lowestFree_11 (c_X11_isIncident hm _) hm.1 (hm.k (by decide)) ⟨rfl, rfl⟩ rfl rfl rfl ?_
        refine r_if_eq (tgt := 21) C dX11_lowestFree_14 rfl (fun c_14 => ?_) (fun c_14 => ?_)
        · skip
          rw [nI_pred] at c_14
          refine r_iload_n C dX11_lowestFree_21 rfl ?_
          refine r_istore_n C dX11_lowestFree_22 rfl rfl ?_
          refine r_iinc C dX11_lowestFree_23 rfl (iinc_m1 _) rfl ?_
          refine r_goto (tgt := 5) C dX11_lowestFree_26 rfl ?_
          rw [nI_pred]
          exact ih_5 _ (by omega) (by rw [← hR]; simp [mFreeLp, c_6, c_14])
        · skip
          rw [nI_pred] at c_14
          refine r_iload_n C dX11_lowestFree_17 rfl ?_
          refine r_goto (tgt := 22) C dX11_lowestFree_18 rfl ?_
          refine r_istore_n C dX11_lowestFree_22 rfl rfl ?_
          refine r_iinc C dX11_lowestFree_23 rfl (iinc_m1 _) rfl ?_
          refine r_goto (tgt := 5) C dX11_lowestFree_26 rfl ?_
          rw [nI_pred]
          exact ih_5 _ (by omega) (by rw [← hR]; simp [mFreeLp, c_6, c_14])
  exact loop_5 8 (-1) (by omega) rfl
set_option maxRecDepth 100000 in
set_option maxHeartbeats 4000000 in
theorem c_X11_clears {g : mG} {l : Launch} {tpl : mT} {b n : Nat} {v : mV} {σ : Nat → Int32} (hm : isM g tpl b n) (hI : MI σ) : CT g l tpl b n yX11_clears cX11_clears 4 none rm_X11_clears [.ref (b + 0)] (sv v σ) (pV (sv v (mClears σ))) := by
  refine CT.introV [some (.ref (b + 0)), none, none, none] (own := RX11) (by decide +kernel) rfl rfl rfl rfl ?_
  intro p e s m args below meth c Q C hE
  obtain ⟨O, hO, eO⟩ := hI.2.2.2.1
  have nO : (σ 15).toNatClampNeg = O := by rw [eO]; exact nI_clamp (by omega)
  refine r_iconst C dX11_clears_0 ic_0 ?_
  refine r_istore_n C dX11_clears_1 rfl rfl ?_
  refine r_iconst C dX11_clears_2 ic_0 ?_
  refine r_istore_n C dX11_clears_3 rfl rfl ?_
  have loop_4 : ∀ (r : Nat) (k k0 : Nat) (τ : Nat → Int32) (z : Option Value), (k + r = O) → (k0 ≤ k) → (τ 15 = nI O) → (mClrLp r k k0 τ = mClrLp O 0 0 σ) → WM g p l e rm_X11_clears s m args below meth c Q tpl b n (sv v τ) 4 [some (.ref (b + 0)), some (.int (nI k0)), some (.int (nI k)), z] [] := by
    intro r
    induction r with
    | zero =>
      intro k k0 τ z hk hk0 h15 hR
      refine r_iload_n C dX11_clears_4 rfl ?_
      refine r_aload_n C dX11_clears_5 rfl ?_
      refine gf_X11_7 C dX11_clears_6 hm.1 (hm.k (by decide)) ?_
      refine r_bipush C dX11_clears_9 bp_15 ?_
      refine r_sld C dX11_clears_11 hm (j := 15) kn_15 (by omega) ?_
      refine r_icmp_ge (tgt := 85) C dX11_clears_12 rfl (fun c_12 => ?_) (fun c_12 => ?_)
      · skip
        refine r_aload_n C dX11_clears_85 rfl ?_
        refine gf_X11_7 C dX11_clears_86 hm.1 (hm.k (by decide)) ?_
        refine r_bipush C dX11_clears_89 bp_15 ?_
        refine r_iload_n C dX11_clears_91 rfl ?_
        refine r_sst C dX11_clears_92 hm (j := 15) kn_15 (by omega) ?_
        exact hE _ _ _ dX11_clears_93 (And.intro rfl (by rw [mClears, nO, ← hR]; rfl))
      · exact absurd c_12 (by rw [h15]; exact nI_nlt (by omega) (by omega))
    | succ r ih_4 =>
      intro k k0 τ z hk hk0 h15 hR
      refine r_iload_n C dX11_clears_4 rfl ?_
      refine r_aload_n C dX11_clears_5 rfl ?_
      refine gf_X11_7 C dX11_clears_6 hm.1 (hm.k (by decide)) ?_
      refine r_bipush C dX11_clears_9 bp_15 ?_
      refine r_sld C dX11_clears_11 hm (j := 15) kn_15 (by omega) ?_
      refine r_icmp_ge (tgt := 85) C dX11_clears_12 rfl (fun c_12 => ?_) (fun c_12 => ?_)
      · exact absurd (by rw [h15]; exact nI_lt (by omega) (by omega)) c_12
      · skip
        refine r_aload_n C dX11_clears_15 rfl ?_
        refine gf_X11_7 C dX11_clears_16 hm.1 (hm.k (by decide)) ?_
        refine r_bipush C dX11_clears_19 bp_83 ?_
        refine r_iconst C dX11_clears_21 ic_3 ?_
        refine r_iload_n C dX11_clears_22 rfl ?_
        refine r_imul C dX11_clears_23 ?_
        refine r_iadd C dX11_clears_24 ?_
        refine r_iconst C dX11_clears_25 ic_2 ?_
        refine r_iadd C dX11_clears_26 ?_
        refine r_sld C dX11_clears_27 hm (j := ((83 + (3 * k)) + 2)) (na_add (na_add kn_83 (na_mul kn_3 rfl)) kn_2) (by omega) ?_
        refine r_aload_n C dX11_clears_28 rfl ?_
        refine gf_X11_7 C dX11_clears_29 hm.1 (hm.k (by decide)) ?_
        refine r_iconst C dX11_clears_32 ic_2 ?_
        refine r_sld C dX11_clears_33 hm (j := 2) kn_2 (by omega) ?_
        refine r_icmp_le (tgt := 79) C dX11_clears_34 rfl (fun c_34 => ?_) (fun c_34 => ?_)
        · skip
          have hx15 := h15
          refine r_iinc C dX11_clears_79 rfl (nI_inc _) rfl ?_
          refine r_goto (tgt := 4) C dX11_clears_82 rfl ?_
          exact ih_4 (k + 1) _ _ _ (by omega) (by omega) hx15 (by rw [← hR]; simp [mClrLp, c_12, c_34])
        · skip
          refine r_iconst C dX11_clears_37 ic_0 ?_
          refine r_istore_n C dX11_clears_38 rfl rfl ?_
          have loop_39 : ∀ (r : Nat) (i : Nat) (ρ : Nat → Int32), (i + r = 3) → (mCpLp k0 k r i ρ = mCpLp k0 k 3 0 τ) → WM g p l e rm_X11_clears s m args below meth c Q tpl b n (sv v ρ) 39 [some (.ref (b + 0)), some (.int (nI k0)), some (.int (nI k)), some (.int (nI i))] [] := by
            intro r
            induction r with
            | zero =>
              intro i ρ hi hR2
              refine r_iload_n C dX11_clears_39 rfl ?_
              refine r_iconst C dX11_clears_40 ic_3 ?_
              refine r_icmp_ge (tgt := 76) C dX11_clears_41 rfl (fun c_41 => ?_) (fun c_41 => ?_)
              · skip
                have e3 : ρ = mCpLp k0 k 3 0 τ := hR2
                subst e3
                have hx15 : mCpLp k0 k 3 0 τ 15 = nI O := by rw [mCpLp_o 3 0 τ (by omega)]; exact h15
                refine r_iinc C dX11_clears_76 rfl (nI_inc _) rfl ?_
                refine r_iinc C dX11_clears_79 rfl (nI_inc _) rfl ?_
                refine r_goto (tgt := 4) C dX11_clears_82 rfl ?_
                exact ih_4 (k + 1) _ _ _ (by omega) (by omega) hx15 (by rw [← hR]; simp [mClrLp, c_34, c_41])
              · exact absurd c_41 (nI_nlt (a := i) (b := 3) (by omega) (by omega))
            | succ r ih_39 =>
              intro i ρ hi hR2
              refine r_iload_n C dX11_clears_39 rfl ?_
              refine r_iconst C dX11_clears_40 ic_3 ?_
              refine r_icmp_ge (tgt := 76) C dX11_clears_41 rfl (fun c_41 => ?_) (fun c_41 => ?_)
              · exact absurd (nI_lt (a := i) (b := 3) (by omega) (by omega)) c_41
              · skip
                refine r_aload_n C dX11_clears_44 rfl ?_
                refine gf_X11_7 C dX11_clears_45 hm.1 (hm.k (by decide)) ?_
                refine r_bipush C dX11_clears_48 bp_83 ?_
                refine r_iconst C dX11_clears_50 ic_3 ?_
                refine r_iload_n C dX11_clears_51 rfl ?_
                refine r_imul C dX11_clears_52 ?_
                refine r_iadd C dX11_clears_53 ?_
                refine r_iload_n C dX11_clears_54 rfl ?_
                refine r_iadd C dX11_clears_55 ?_
                refine r_aload_n C dX11_clears_56 rfl ?_
                refine gf_X11_7 C dX11_clears_57 hm.1 (hm.k (by decide)) ?_
                refine r_bipush C dX11_clears_60 bp_83 ?_
                refine r_iconst C dX11_clears_62 ic_3 ?_
                refine r_iload_n C dX11_clears_63 rfl ?_
                refine r_imul C dX11_clears_64 ?_
                refine r_iadd C dX11_clears_65 ?_
                refine r_iload_n C dX11_clears_66 rfl ?_
                refine r_iadd C dX11_clears_67 ?_
                refine r_sld C dX11_clears_68 hm (j := ((83 + (3 * k)) + i)) (na_add (na_add kn_83 (na_mul kn_3 rfl)) rfl) (by omega) ?_
                refine r_sst C dX11_clears_69 hm (j := ((83 + (3 * k0)) + i)) (na_add (na_add kn_83 (na_mul kn_3 rfl)) rfl) (by omega) ?_
                refine r_iinc C dX11_clears_70 rfl (nI_inc _) rfl ?_
                refine r_goto (tgt := 39) C dX11_clears_73 rfl ?_
                exact ih_39 (i + 1) _ (by omega) (by rw [← hR2]; rfl)
          exact loop_39 3 0 τ rfl rfl
  exact loop_4 O 0 0 σ none (by omega) (Nat.le_refl 0) eO rfl
set_option maxRecDepth 100000 in
set_option maxHeartbeats 4000000 in
theorem c_X11_overrides {g : mG} {l : Launch} {tpl : mT} {b n : Nat} {v : mV} {σ : Nat → Int32} (hm : isM g tpl b n) (hI : MI σ) (x y z : Int32) : CT g l tpl b n yX11_overrides cX11_overrides 5 (some .int) rm_X11_overrides [.ref (b + 0), .int x, .int y, .int z] (sv v σ) (pI (mOverrides σ x y z).1 (sv v (mOverrides σ x y z).2)) := by
  refine CT.introI [some (.ref (b + 0)), some (.int x), some (.int y), some (.int z), none] (own := RX11) (by decide +kernel) rfl rfl rfl rfl ?_
  intro p e s m args below meth c Q C hE
  refine r_aload_n C dX11_overrides_0 rfl ?_
  refine r_iload_n C dX11_overrides_1 rfl ?_
  refine cvI_X11_77 C dX11_overrides_2 (c_X11_isRegion hm _) hm.1 (hm.k (by decide)) ⟨rfl, rfl⟩ rfl rfl rfl ?_
  refine r_if_eq (tgt := 26) C dX11_overrides_5 rfl (fun c_5 => ?_) (fun c_5 => ?_)
  · skip
    refine r_iconst C dX11_overrides_26 ic_m1 ?_
    exact hE _ _ _ _ dX11_overrides_27 (by simp [pI, mOverrides, c_5])
  · skip
    refine r_aload_n C dX11_overrides_8 rfl ?_
    refine r_iload_n C dX11_overrides_9 rfl ?_
    refine cvI_X11_80 C dX11_overrides_10 (c_X11_isPerson hm _) hm.1 (hm.k (by decide)) ⟨rfl, rfl⟩ rfl rfl rfl ?_
    refine r_if_eq (tgt := 26) C dX11_overrides_13 rfl (fun c_13 => ?_) (fun c_13 => ?_)
    · skip
      refine r_iconst C dX11_overrides_26 ic_m1 ?_
      exact hE _ _ _ _ dX11_overrides_27 (by simp [pI, mOverrides, c_5, c_13])
    · skip
      refine r_iload_n C dX11_overrides_16 rfl ?_
      refine r_iconst C dX11_overrides_17 ic_1 ?_
      refine r_bipush C dX11_overrides_18 bp_99 ?_
      refine cvI_X11_32 C dX11_overrides_20 (c_X11_in _ _ _) ⟨rfl, rfl⟩ rfl rfl rfl ?_
      refine r_if_ne (tgt := 28) C dX11_overrides_23 rfl (fun c_23 => ?_) (fun c_23 => ?_)
      · skip
        refine r_aload_n C dX11_overrides_28 rfl ?_
        refine cvI_X11_89 C dX11_overrides_29 (c_X11_inForce hm hI) hm.1 (hm.k (by decide)) ⟨rfl, rfl⟩ rfl rfl rfl ?_
        refine r_bipush C dX11_overrides_32 bp_6 ?_
        refine r_icmp_ne (tgt := 40) C dX11_overrides_34 rfl (fun c_34 => ?_) (fun c_34 => ?_)
        · skip
          obtain ⟨hF, hF6⟩ := mForce_n hI
          refine r_aload_n C dX11_overrides_40 rfl ?_
          refine cvV_X11_93 C dX11_overrides_41 (c_X11_clears hm hI) hm.1 (hm.k (by decide)) ⟨rfl, rfl⟩ rfl rfl rfl ?_
          have e15 := mClears_15 (σ := σ)
          generalize hN : (mClrLp (σ 15).toNatClampNeg 0 0 σ).1 = N at hF hF6 e15
          have hN5 : N < 6 := by
            by_cases hz : N < 6
            · exact hz
            · exact absurd (by rw [hF, show N = 6 by omega]; exact kn_6.symm) c_34
          have nN : (mClears σ 15).toNatClampNeg = N := by rw [e15]; exact nI_clamp (by omega)
          have hO : mOverrides σ x y z = (mClears σ 15 + 1, mOvr4 (mClears σ) N x y z) := by rw [mOverrides, if_neg c_5, if_neg c_13, if_neg c_23, if_neg c_34, nN]
          refine r_bipush C dX11_overrides_44 bp_83 ?_
          refine r_iconst C dX11_overrides_46 ic_3 ?_
          refine r_aload_n C dX11_overrides_47 rfl ?_
          refine gf_X11_7 C dX11_overrides_48 hm.1 (hm.k (by decide)) ?_
          refine r_bipush C dX11_overrides_51 bp_15 ?_
          refine r_sld C dX11_overrides_53 hm (j := 15) kn_15 (by omega) ?_
          refine r_imul C dX11_overrides_54 ?_
          refine r_iadd C dX11_overrides_55 ?_
          refine r_istore C dX11_overrides_56 rfl rfl ?_
          refine r_aload_n C dX11_overrides_58 rfl ?_
          refine gf_X11_7 C dX11_overrides_59 hm.1 (hm.k (by decide)) ?_
          refine r_iload C dX11_overrides_62 rfl ?_
          refine r_iload_n C dX11_overrides_64 rfl ?_
          refine r_sst C dX11_overrides_65 hm (j := (83 + (3 * N))) (na_add kn_83 (na_mul kn_3 e15)) (by omega) ?_
          refine r_aload_n C dX11_overrides_66 rfl ?_
          refine gf_X11_7 C dX11_overrides_67 hm.1 (hm.k (by decide)) ?_
          refine r_iload C dX11_overrides_70 rfl ?_
          refine r_iconst C dX11_overrides_72 ic_1 ?_
          refine r_iadd C dX11_overrides_73 ?_
          refine r_iload_n C dX11_overrides_74 rfl ?_
          refine r_sst C dX11_overrides_75 hm (j := ((83 + (3 * N)) + 1)) (na_add (na_add kn_83 (na_mul kn_3 e15)) kn_1) (by omega) ?_
          refine r_aload_n C dX11_overrides_76 rfl ?_
          refine gf_X11_7 C dX11_overrides_77 hm.1 (hm.k (by decide)) ?_
          refine r_iload C dX11_overrides_80 rfl ?_
          refine r_iconst C dX11_overrides_82 ic_2 ?_
          refine r_iadd C dX11_overrides_83 ?_
          refine r_aload_n C dX11_overrides_84 rfl ?_
          refine gf_X11_7 C dX11_overrides_85 hm.1 (hm.k (by decide)) ?_
          refine r_iconst C dX11_overrides_88 ic_2 ?_
          refine r_sld C dX11_overrides_89 hm (j := 2) kn_2 (by omega) ?_
          refine r_bipush C dX11_overrides_90 bp_60 ?_
          refine r_iload_n C dX11_overrides_92 rfl ?_
          refine r_imul C dX11_overrides_93 ?_
          refine r_iadd C dX11_overrides_94 ?_
          refine r_sst C dX11_overrides_95 hm (j := ((83 + (3 * N)) + 2)) (na_add (na_add kn_83 (na_mul kn_3 e15)) kn_2) (by omega) ?_
          refine r_aload_n C dX11_overrides_96 rfl ?_
          refine gf_X11_7 C dX11_overrides_97 hm.1 (hm.k (by decide)) ?_
          refine r_bipush C dX11_overrides_100 bp_15 ?_
          refine r_dup2 C dX11_overrides_102 rfl rfl ?_
          refine r_sld C dX11_overrides_103 hm (j := 15) kn_15 (by omega) ?_
          refine r_iconst C dX11_overrides_104 ic_1 ?_
          refine r_iadd C dX11_overrides_105 ?_
          refine r_sst C dX11_overrides_106 hm (j := 15) kn_15 (by omega) ?_
          refine r_aload_n C dX11_overrides_107 rfl ?_
          refine gf_X11_7 C dX11_overrides_108 hm.1 (hm.k (by decide)) ?_
          refine r_bipush C dX11_overrides_111 bp_15 ?_
          refine r_sld C dX11_overrides_113 hm (j := 15) kn_15 (by omega) ?_
          exact hE _ _ _ _ dX11_overrides_114 (by rw [hO]; simp (disch := omega) [pI, mOvr4, upd_o, upd_r])
        · skip
          refine r_bipush C dX11_overrides_37 bp_m3 ?_
          exact hE _ _ _ _ dX11_overrides_39 (by simp [pI, mOverrides, c_5, c_13, c_23, c_34])
      · skip
        refine r_iconst C dX11_overrides_26 ic_m1 ?_
        exact hE _ _ _ _ dX11_overrides_27 (by simp [pI, mOverrides, c_5, c_13, c_23])
