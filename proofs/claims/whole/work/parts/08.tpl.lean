/-! ===== more rows; the templates of the class ===== -/
section ROWS2
variable {g : mG} {p : Program} {l : Launch} {e : Env} {R : Room} {s : State} {m : MethodId} {args : Array Value} {below : List Frame} {meth : Method} {c : Code} {Q : State → Prop} {tpl : mT} {b n : Nat} {v : mV} {pc : Nat} {L : List (Option Value)} {st : List Value} {own : String} {cc : ByteArray}
theorem r_i2c (C : cx g p s m args meth c own cc) {x y : Int32} (hd : decode cc pc = .ok (.i2c, 1)) (hy : (x.toUInt32 % 65536).toInt32 = y) (kk : WM g p l e R s m args below meth c Q tpl b n v (pc + 1) L (.int y :: st)) : WM g p l e R s m args below meth c Q tpl b n v pc L (.int x :: st) := fun H locs ls hP hS hl hm => lv_i2c C.1 C.2.1 hd hy (kk H locs ls hP hS hl hm)
theorem r_min (C : cx g p s m args meth c own cc) {x y : Int32} {index : Nat} (hd : decode cc pc = .ok (.invokestatic index, 3)) (hlink : Cond.methodLink own index Lib.Math.min.name ∈ wsL_law) (hfr : Nat.ble 1 R.frames = true) (hlo : Nat.ble ((st.map fun v => v.category).sum + 13) R.locals = true) (kk : WM g p l e R s m args below meth c Q tpl b n v (pc + 3) L (.int (if y < x then y else x) :: st)) : WM g p l e R s m args below meth c Q tpl b n v pc L (.int y :: .int x :: st) := fun H locs ls hP hS hl hm => va_mmin C.1 C.2.1 (hm.trans hl.1.symm) C.2.2.1 (C.2.2.2.1 _ hlink) (C.2.2.2.1 _ kw_23_3) (C.2.2.2.1 _ kw_23_4) (C.2.2.2.1 _ kw_23_5) (Nat.le_of_ble_eq_true hfr) (Nat.le_of_ble_eq_true hlo) (Nat.zero_le _) (Nat.zero_le _) hd (kk H locs ls hP hS hl hm)
theorem r_tsw (C : cx g p s m args meth c own cc) {dflt lo hi : Int} {offs : Array Int} {len : Nat} {x y : Int32} {off : Int} {tgt : Nat} (hd : decode cc pc = .ok (.tableswitch dflt lo hi offs, len)) (hx : x = y) (ho : (decide (¬ y.toInt < lo) && decide (¬ hi < y.toInt) && (offs[(y.toInt - lo).toNat]? == some off)) = true) (ht : (pc : Int) + off = (tgt : Int)) (kk : WM g p l e R s m args below meth c Q tpl b n v tgt L st) : WM g p l e R s m args below meth c Q tpl b n v pc L (.int x :: st) := fun H locs ls hP hS hl hm => by
  simp only [Bool.and_eq_true, decide_eq_true_eq] at ho
  subst hx
  exact lv_tableIn C.1 C.2.1 hd ho.1.1 ho.1.2 (eq_of_beq ho.2) ht (kk H locs ls hP hS hl hm)
theorem tsw_out {x : Int32} {lo cnt : Nat} (h : ∀ j : Nat, j < cnt → ¬ x = nI (lo + j)) (hz : lo + cnt < 2147483648) : x.toInt < (lo : Int) ∨ (lo : Int) + (cnt : Int) - 1 < x.toInt := by
  by_cases h1 : x.toInt < (lo : Int)
  · exact Or.inl h1
  · by_cases h2 : (lo : Int) + (cnt : Int) - 1 < x.toInt
    · exact Or.inr h2
    · exfalso
      have hn : (nI x.toInt.toNat) = x := by
        refine Int32.toInt_inj.mp ?_
        rw [nI_toInt (by omega)]
        omega
      refine h (x.toInt.toNat - lo) (by omega) ?_
      rw [show lo + (x.toInt.toNat - lo) = x.toInt.toNat by omega]
      exact hn.symm
theorem r_tswd (C : cx g p s m args meth c own cc) {dflt lo0 hi : Int} {lo cnt : Nat} {offs : Array Int} {len : Nat} {x : Int32} {tgt : Nat} (hd : decode cc pc = .ok (.tableswitch dflt lo0 hi offs, len)) (hx : ∀ j : Nat, j < cnt → ¬ x = nI (lo + j)) (ho : (decide (lo0 = (lo : Int)) && decide (hi = (lo : Int) + (cnt : Int) - 1) && decide (lo + cnt < 2147483648)) = true) (ht : (pc : Int) + dflt = (tgt : Int)) (kk : WM g p l e R s m args below meth c Q tpl b n v tgt L st) : WM g p l e R s m args below meth c Q tpl b n v pc L (.int x :: st) := fun H locs ls hP hS hl hm => by
  simp only [Bool.and_eq_true, decide_eq_true_eq] at ho
  obtain ⟨⟨rfl, rfl⟩, hz⟩ := ho
  exact lv_tableOut C.1 C.2.1 hd (tsw_out hx hz) ht (kk H locs ls hP hS hl hm)
theorem r_lsw (C : cx g p s m args meth c own cc) {dflt : Int} {ps : Array (Int × Int)} {len : Nat} {x y : Int32} {off : Int} {tgt : Nat} (hd : decode cc pc = .ok (.lookupswitch dflt ps, len)) (hx : x = y) (ho : ((ps.toList.zip (ps.toList.drop 1)).all (fun (a, next) => a.1 < next.1) && (Op.lookupswitch.offset ps.toList dflt y.toInt == off)) = true) (ht : (pc : Int) + off = (tgt : Int)) (kk : WM g p l e R s m args below meth c Q tpl b n v tgt L st) : WM g p l e R s m args below meth c Q tpl b n v pc L (.int x :: st) := fun H locs ls hP hS hl hm => by
  simp only [Bool.and_eq_true] at ho
  subst hx
  exact lv_lookup C.1 C.2.1 hd ho.1 (eq_of_beq ho.2) ht (kk H locs ls hP hS hl hm)
theorem arrV_congr {cA : ClassId} {sz : Nat} {f f' : Nat → Value} (h : ∀ j, j < sz → f j = f' j) : arrV cA sz f = arrV cA sz f' := by
  have hz : Array.ofFn (n := sz) (fun j => f j) = Array.ofFn (n := sz) (fun j => f' j) := by
    congr 1
    funext j
    exact h j j.2
  unfold arrV
  first | (rw [hz]) | (simp only [hz]) | (congr 1)
/-- one whole row becomes another's -/
def cpRow (v : mV) (k o : Nat) : mV := fun k' => if k' = k then v o else v k'
theorem WM_conv {v1 : mV} (hv : ∀ k, k < n → va_at g.1 vwCl (b + k, tpl k (v k)) = va_at g.1 vwCl (b + k, tpl k (v1 k))) (kk : WM g p l e R s m args below meth c Q tpl b n v1 pc L st) : WM g p l e R s m args below meth c Q tpl b n v pc L st := fun H locs ls hP hS hl hm => by
  refine kk H locs ls (fun k q hq => ?_) hS hl hm
  obtain ⟨hk, rfl⟩ := mW_of hq
  rw [← hv k hk]
  exact hP k _ (mW_get hk)
theorem r_copy (C : cx g p s m args meth c own cc) {index k0 k1 sz : Nat} {x : Int32} (hd : decode cc pc = .ok (.invokestatic index, 3)) (hlink : Cond.methodLink own index arraycopyName ∈ wsL_law) (ht0 : tpl k0 = fun f => .inl (g.2 0, sz, .inl f)) (ht1 : tpl k1 = fun f => .inl (g.2 0, sz, .inl f)) (hk0 : k0 < n) (hk1 : k1 < n) (hx : x = nI sz) (hz : Nat.ble sz 1000 = true) (hfr : Nat.ble 1 R.frames = true) (hlo : Nat.ble ((st.map fun v => v.category).sum + (nativeFrameWords "java/lang/System" "arraycopy" 5 + 11)) R.locals = true) (kk : WM g p l e R s m args below meth c Q tpl b n (cpRow v k1 k0) (pc + 3) L st) : WM g p l e R s m args below meth c Q tpl b n v pc L (.int x :: .int 0 :: .ref (b + k1) :: .int 0 :: .ref (b + k0) :: st) := fun H locs ls hP hS hl hm => by
  have hz := Nat.le_of_ble_eq_true hz
  subst hx
  have hcl : (nI sz).toNatClampNeg = sz := nI_clamp (by omega)
  refine va_copyi (D := g.1) (cl := vwCl) (ws := mW b n tpl v) (A := aR b n) (n0 := sz) (n1 := sz) (f := v k0) (g := v k1) (ty := .int) C.1 C.2.1 (hm.trans hl.1.symm) C.2.2.1 (C.2.2.2.1 _ hlink) (C.2.2.2.1 _ kw_7_9) (C.2.2.2.1 _ kw_7_10) (C.2.2.2.1 _ kw_7_11) C.2.2.2.2.1.1 hP mW_D hS k0 k1 0 0 (mW_getE hk0 (by rw [ht0])) (mW_getE hk1 (by rw [ht1])) rfl rfl rfl (by decide) (by decide) (nI_pos (by omega)) (by rw [hcl]; simp) (by rw [hcl]; simp) (fun _ _ => rfl) (Nat.le_of_ble_eq_true hfr) (Nat.le_of_ble_eq_true hlo) hd (fun H1 locs1 hP1 _ hS1 => kk H1 locs1 ls ?_ hS1 hl hm)
  rw [hcl, mW_row hk1 (by rw [ht1])] at hP1
  intro k q hq
  obtain ⟨hk, rfl⟩ := mW_of hq
  have h2 := hP1 k _ (mW_get hk)
  by_cases hkk : k = k1
  · subst hkk
    simp only [if_true, cpRow] at h2 ⊢
    rw [ht1] at h2 ⊢
    refine h2.trans (congrArg some ?_)
    simp only [vp_cell]
    refine arrV_congr (fun j hj => ?_)
    have z0 : Int32.toNatClampNeg 0 = 0 := by decide
    simp [va_cpy, z0, hj]
  · simp only [if_neg hkk, cpRow] at h2 ⊢
    exact h2
end ROWS2
/-! the class's cells: House at h, Rotas h+1, its three rows h+2..h+4, person i at h+(5+2i), its span behind it, region i at h+(21+3i), its span, its rota, stand-in i at h+(30+i), the row of incidents h+36, totals h+37, incident i at h+(38+i) -/
abbrev tSpan : (Nat → Int32) → va_E := fun f => .inr (7, [.int (f 0), .int (f 1)])
abbrev tPerson (b k : Nat) : (Nat → Int32) → va_E := fun f => .inr (3, [.ref (b + (k + 1)), .int (f 1), .int (f 2), .int (f 3)])
abbrev tRegion (b k : Nat) : (Nat → Int32) → va_E := fun f => .inr (4, [.ref (b + (k + 1)), .ref (b + (k + 2)), .int (f 2), .int (f 3)])
abbrev tRota (g : mG) : (Nat → Int32) → va_E := fun f => .inl (g.2 0, 5, .inl f)
abbrev tStand : (Nat → Int32) → va_E := fun f => .inr (8, [.int (f 0), .int (f 1), .int (f 2)])
abbrev tIncident : (Nat → Int32) → va_E := fun f => .inr (2, [.int (f 0), .int (f 1), .int (f 2), .int (f 3), .int (f 4), .int (f 5), .int (f 6), .int (f 7), .int (f 8), .int (f 9), .int (f 10), .int (f 11), .int (f 12), .int (f 13)])
abbrev tTotals : (Nat → Int32) → va_E := fun f => .inr (9, [.int (f 0), .int (f 1), .int (f 2), .int (f 3), .int (f 4), .int (f 5), .int (f 6), .int (f 7), .int (f 8), .int (f 9)])
abbrev tRotas (b h : Nat) : (Nat → Int32) → va_E := fun f => .inr (5, [.ref (b + (h + 2)), .ref (b + (h + 3)), .ref (b + (h + 4)), .int (f 3), .int (f 4), .int (f 5)])
abbrev tRefs (g : mG) (t sz : Nat) (F : Nat → Nat) : (Nat → Int32) → va_E := fun _ => .inl (g.2 t, sz, .inr (.inr (.inr (.inr (fun i => some (F i))))))
abbrev tHouse (b h : Nat) : (Nat → Int32) → va_E := fun f => .inr (1, [.ref (b + (h + 1)), .ref (b + (h + 36)), .ref (b + (h + 37)), .int (f 3), .int (f 4), .int (f 5)])
def isP (tpl : mT) (b n k : Nat) : Prop := tpl k = tPerson b k ∧ tpl (k + 1) = tSpan ∧ k + 1 < n
def isR (g : mG) (tpl : mT) (b n k : Nat) : Prop := tpl k = tRegion b k ∧ tpl (k + 1) = tSpan ∧ tpl (k + 2) = tRota g ∧ k + 2 < n
def isT (g : mG) (tpl : mT) (b n h : Nat) : Prop := tpl (h + 1) = tRotas b h ∧ tpl (h + 2) = tRefs g 4 8 (fun i => b + (h + (5 + 2 * i))) ∧ tpl (h + 3) = tRefs g 5 3 (fun i => b + (h + (21 + 3 * i))) ∧ tpl (h + 4) = tRefs g 6 6 (fun i => b + (h + (30 + i))) ∧
  (∀ i, i < 8 → isP tpl b n (h + (5 + 2 * i))) ∧ (∀ i, i < 3 → isR g tpl b n (h + (21 + 3 * i))) ∧ (∀ i, i < 6 → tpl (h + (30 + i)) = tStand) ∧ h + 46 ≤ n
def isH (g : mG) (tpl : mT) (b n h : Nat) : Prop := tpl h = tHouse b h ∧ isT g tpl b n h ∧ tpl (h + 36) = tRefs g 3 8 (fun i => b + (h + (38 + i))) ∧ tpl (h + 37) = tTotals ∧ (∀ i, i < 8 → tpl (h + (38 + i)) = tIncident) ∧ h + 46 ≤ n
theorem isP.k {tpl : mT} {b n k : Nat} (h : isP tpl b n k) : k < n := by have := h.2.2; omega
theorem isR.k {g : mG} {tpl : mT} {b n k : Nat} (h : isR g tpl b n k) : k < n := by have := h.2.2.2; omega
theorem isR.k1 {g : mG} {tpl : mT} {b n k : Nat} (h : isR g tpl b n k) : k + 1 < n := by have := h.2.2.2; omega
theorem isT.k {g : mG} {tpl : mT} {b n h : Nat} (hh : isT g tpl b n h) {j : Nat} (hj : j < 46) : h + j < n := by have := hh.2.2.2.2.2.2.2; omega
theorem isH.k {g : mG} {tpl : mT} {b n h : Nat} (hh : isH g tpl b n h) {j : Nat} (hj : j < 46) : h + j < n := by have := hh.2.2.2.2.2; omega
theorem isH.k0 {g : mG} {tpl : mT} {b n h : Nat} (hh : isH g tpl b n h) : h < n := by have := hh.2.2.2.2.2; omega
