/-! ===== rows of floats, doubles, unsigned shifts, wide constants ===== -/
theorem va_ldcwF {p : Program} {l : Launch} {e : Env} {R : Room} {s T : State} {m : MethodId} {args : Array Value} {below : List Frame} {meth : Method} {c : Code} {locs : List Loc} {cells slots : Nat} (X : Stand p l e R s m args below meth c T locs cells slots) (hexec : p.tables.exec = Jvm.exec) {own : String} {index : Nat} {v : UInt32} (hown : s.vm.findClass own = some m.cls)
    (hconst : (Cond.constantFloat own index v).before args s = true) {g : JFrame} (hg : g.method = m) (hdg : decode c.code g.pc = .ok (.ldc_w index, 3)) :
    ∀ target, Steps p.tables e below (T.setTop { g with pc := g.pc + 3, stack := .float v :: g.stack }) target → Steps p.tables e below (T.setTop g) target := by
  obtain ⟨k, cf, hk, hcf, hcp⟩ := Cond.constantFloat_spec hown hconst
  obtain ⟨k', hk', he⟩ := X.warmed.alike.2.2 _ _ hk
  intro target hrest
  subst hg
  jvm_step X.here [hexec, hdg, ldc_w.wp_float (s := T) (f := g) X.here.top hk' (by rw [he]; exact hcf) hcp]
  exact hrest
theorem lv_ldcwf {p : Program} {l : Launch} {e : Env} {R : Room} {s : State} {m : MethodId} {args : Array Value} {below : List Frame} {meth : Method} {c : Code} {H : Heap} {locs : List Loc} {cells slots : Nat} {Q : State → Prop} {pc : Nat} {ls : Array Slot} {rest : List Value} {cc : ByteArray} (hexec : p.tables.exec = Jvm.exec) (hb : c.code = cc) {own : String} {index : Nat} {v : UInt32} (hown : s.vm.findClass own = some m.cls) (hconst : (Cond.constantFloat own index v).before args s = true) (hdg : decode cc pc = .ok (.ldc_w index, 3)) (k : W p l e R s m args below meth c H locs cells slots Q (F0 m (pc + 3) ls (.float v :: rest))) : W p l e R s m args below meth c H locs cells slots Q (F0 m pc ls rest) := by
  intro T hT X
  obtain ⟨t, a, b⟩ := k T hT X
  exact ⟨t, va_ldcwF X hexec hown hconst (g := F0 m pc ls rest) rfl (by rw [hb]; exact hdg) t a, b⟩
/-- a double takes two locals -/
theorem lvO_st2 {L : List (Option Value)} {i : Nat} {w : Value} (h2 : c2 L i = true) {ls' : Array Slot} (h : lv_has ls' L.length ((i, w) :: (prs 0 L).filter (fun q => !(q.1 == i) && (!(q.1 == i + 1) && !(q.1 + 1 == i && q.2.category == 2))))) : lvO ls' ((L.set i (some w)).set (i + 1) none) := by
  refine ⟨by rw [List.length_set, List.length_set]; exact h.1, h.2.1, fun q hq0 => h.2.2 q ?_⟩
  obtain ⟨-, hq⟩ := (prs_mem _ 0 q).mp hq0
  rw [Nat.sub_zero] at hq
  have hi1 : q.1 ≠ i + 1 := fun z => by
    rw [z] at hq
    have hl : i + 1 < ((L.set i (some w)).set (i + 1) none).length := (List.getElem?_eq_some_iff.mp hq).1
    rw [List.length_set] at hl
    rw [List.getElem?_set_self hl] at hq
    cases hq
  rw [List.getElem?_set_ne (Ne.symm hi1)] at hq
  by_cases hi : q.1 = i
  · rw [hi] at hq
    have hl : i < (L.set i (some w)).length := (List.getElem?_eq_some_iff.mp hq).1
    rw [List.length_set] at hl
    rw [List.getElem?_set_self hl] at hq
    obtain ⟨a, x⟩ := q
    cases hq
    subst hi
    exact List.mem_cons_self
  · rw [List.getElem?_set_ne (Ne.symm hi)] at hq
    refine List.mem_cons_of_mem _ (List.mem_filter.mpr ⟨(prs_mem L 0 q).mpr ⟨Nat.zero_le _, by simpa using hq⟩, ?_⟩)
    by_cases hc : q.1 + 1 = i
    · subst hc
      have h3 : q.2.category = 1 := by
        have h4 : (match L[q.1]? with
          | some (some w) => w.category == 1
          | _ => true) = true := h2
        rw [hq] at h4
        exact eq_of_beq h4
      simp [h3, hi1]
    · simp [hi, hc, hi1]
section ROWSF
variable {g : mG} {p : Program} {l : Launch} {e : Env} {R : Room} {s : State} {m : MethodId} {args : Array Value} {below : List Frame} {meth : Method} {c : Code} {Q : State → Prop} {tpl : mT} {b n : Nat} {v : mV} {pc : Nat} {L : List (Option Value)} {st : List Value} {own : String} {cc : ByteArray}
theorem r_iushr (C : cx g p s m args meth c own cc) {x y z : Int32} (hd : decode cc pc = .ok (.iushr, 1)) (hv : (x.toUInt32 >>> (y.toUInt32 &&& Int32.toUInt32 31)).toInt32 = z) (kk : WM g p l e R s m args below meth c Q tpl b n v (pc + 1) L (.int z :: st)) : WM g p l e R s m args below meth c Q tpl b n v pc L (.int y :: .int x :: st) := fun H locs ls hP hS hl hm => lv_iushr C.1 C.2.1 hd hv (kk H locs ls hP hS hl hm)
theorem r_ldcw (C : cx g p s m args meth c own cc) {index : Nat} {x : Int32} (hd : decode cc pc = .ok (.ldc_w index, 3)) (hw : Cond.constant own index x ∈ wsL_law) (kk : WM g p l e R s m args below meth c Q tpl b n v (pc + 3) L (.int x :: st)) : WM g p l e R s m args below meth c Q tpl b n v pc L st := fun H locs ls hP hS hl hm => lv_ldcw C.1 C.2.1 C.2.2.1 (C.2.2.2.1 _ hw) hd (kk H locs ls hP hS hl hm)
theorem r_ldcwf (C : cx g p s m args meth c own cc) {index : Nat} {x : UInt32} (hd : decode cc pc = .ok (.ldc_w index, 3)) (hw : Cond.constantFloat own index x ∈ wsL_law) (kk : WM g p l e R s m args below meth c Q tpl b n v (pc + 3) L (.float x :: st)) : WM g p l e R s m args below meth c Q tpl b n v pc L st := fun H locs ls hP hS hl hm => lv_ldcwf C.1 C.2.1 C.2.2.1 (C.2.2.2.1 _ hw) hd (kk H locs ls hP hS hl hm)
theorem r_fconst0 (C : cx g p s m args meth c own cc) (hd : decode cc pc = .ok (.fconst 0, 1)) (kk : WM g p l e R s m args below meth c Q tpl b n v (pc + 1) L (.float (fB32 0) :: st)) : WM g p l e R s m args below meth c Q tpl b n v pc L st := fun H locs ls hP hS hl hm => lv_fconst0 C.1 C.2.1 hd (kk H locs ls hP hS hl hm)
theorem fB_1 : FP.fconst1 = fB32 (fF 127 0) := by decide +kernel
theorem fB_2 : FP.fconst2 = fB32 (fF 128 0) := by decide +kernel
theorem r_fconst1 (C : cx g p s m args meth c own cc) (hd : decode cc pc = .ok (.fconst 1, 1)) (kk : WM g p l e R s m args below meth c Q tpl b n v (pc + 1) L (.float (fB32 (fF 127 0)) :: st)) : WM g p l e R s m args below meth c Q tpl b n v pc L st := fun H locs ls hP hS hl hm => lv_fconst1 C.1 C.2.1 hd (by rw [fB_1]; exact kk H locs ls hP hS hl hm)
theorem r_fconst2 (C : cx g p s m args meth c own cc) (hd : decode cc pc = .ok (.fconst 2, 1)) (kk : WM g p l e R s m args below meth c Q tpl b n v (pc + 1) L (.float (fB32 (fF 128 0)) :: st)) : WM g p l e R s m args below meth c Q tpl b n v pc L st := fun H locs ls hP hS hl hm => lv_fconst2 C.1 C.2.1 hd (by rw [fB_2]; exact kk H locs ls hP hS hl hm)
theorem r_fload_n (C : cx g p s m args meth c own cc) {k : Fin 4} {x : UInt32} (hd : decode cc pc = .ok (.fload_n k, 1)) (hx : L[(k : Nat)]? = some (some (.float x))) (kk : WM g p l e R s m args below meth c Q tpl b n v (pc + 1) L (.float x :: st)) : WM g p l e R s m args below meth c Q tpl b n v pc L st := fun H locs ls hP hS hl hm => lv_fload_n C.1 C.2.1 hd rfl (lvO_at hl hx) (kk H locs ls hP hS hl hm)
theorem r_dload_n (C : cx g p s m args meth c own cc) {k : Fin 4} {x : UInt64} (hd : decode cc pc = .ok (.dload_n k, 1)) (hx : L[(k : Nat)]? = some (some (.double x))) (kk : WM g p l e R s m args below meth c Q tpl b n v (pc + 1) L (.double x :: st)) : WM g p l e R s m args below meth c Q tpl b n v pc L st := fun H locs ls hP hS hl hm => lv_dload_n C.1 C.2.1 hd rfl (lvO_at hl hx) (kk H locs ls hP hS hl hm)
theorem r_dload (C : cx g p s m args meth c own cc) {k : Nat} {x : UInt64} (hd : decode cc pc = .ok (.dload k, 2)) (hx : L[k]? = some (some (.double x))) (kk : WM g p l e R s m args below meth c Q tpl b n v (pc + 2) L (.double x :: st)) : WM g p l e R s m args below meth c Q tpl b n v pc L st := fun H locs ls hP hS hl hm => lv_dload C.1 C.2.1 hd (lvO_at hl hx) (kk H locs ls hP hS hl hm)
theorem r_fstore_n (C : cx g p s m args meth c own cc) {k : Fin 4} {x : UInt32} (hd : decode cc pc = .ok (.fstore_n k, 1)) (hn : Nat.ble (k + 1) L.length = true) (h2 : c2 L k = true) (kk : WM g p l e R s m args below meth c Q tpl b n v (pc + 1) (L.set k (some (.float x))) st) : WM g p l e R s m args below meth c Q tpl b n v pc L (.float x :: st) := fun H locs ls hP hS hl hm => lv_fstore_n C.1 C.2.1 hd rfl hl (Nat.le_of_ble_eq_true hn) rfl (fun ls' hl' => kk H locs ls' hP hS (lvO_st h2 hl') (by rw [len_set]; exact hm))
theorem r_dstore_n (C : cx g p s m args meth c own cc) {k : Fin 4} {x : UInt64} (hd : decode cc pc = .ok (.dstore_n k, 1)) (hn : Nat.ble (k + 2) L.length = true) (h2 : c2 L k = true) (kk : WM g p l e R s m args below meth c Q tpl b n v (pc + 1) ((L.set k (some (.double x))).set (k + 1) none) st) : WM g p l e R s m args below meth c Q tpl b n v pc L (.double x :: st) := fun H locs ls hP hS hl hm => lv_dstore_n C.1 C.2.1 hd rfl hl (Nat.le_of_ble_eq_true hn) rfl (fun ls' hl' => kk H locs ls' hP hS (lvO_st2 h2 hl') (by rw [len_set, len_set]; exact hm))
theorem r_dstore (C : cx g p s m args meth c own cc) {k : Nat} {x : UInt64} (hd : decode cc pc = .ok (.dstore k, 2)) (hn : Nat.ble (k + 2) L.length = true) (h2 : c2 L k = true) (kk : WM g p l e R s m args below meth c Q tpl b n v (pc + 2) ((L.set k (some (.double x))).set (k + 1) none) st) : WM g p l e R s m args below meth c Q tpl b n v pc L (.double x :: st) := fun H locs ls hP hS hl hm => lv_dstore C.1 C.2.1 hd hl (Nat.le_of_ble_eq_true hn) rfl (fun ls' hl' => kk H locs ls' hP hS (lvO_st2 h2 hl') (by rw [len_set, len_set]; exact hm))
theorem r_fcmp (C : cx g p s m args meth c own cc) {x y : UInt32} {op : CmpOp} (hd : decode cc pc = .ok (.fcmp op, 1)) (kk : WM g p l e R s m args below meth c Q tpl b n v (pc + 1) L (.int (Op.cmpValue (FP.fcmp x y) op) :: st)) : WM g p l e R s m args below meth c Q tpl b n v pc L (.float y :: .float x :: st) := fun H locs ls hP hS hl hm => lv_fcmp C.1 C.2.1 hd (kk H locs ls hP hS hl hm)
theorem r_fmul (C : cx g p s m args meth c own cc) {x y z : UInt32} (hd : decode cc pc = .ok (.fmul, 1)) (hz : FP.Core.fmul x y = z) (hn : vf_n32 z) (kk : WM g p l e R s m args below meth c Q tpl b n v (pc + 1) L (.float z :: st)) : WM g p l e R s m args below meth c Q tpl b n v pc L (.float y :: .float x :: st) := fun H locs ls hP hS hl hm => by
  subst hz
  exact lv_fmul C.1 C.2.1 hd hn (kk H locs ls hP hS hl hm)
theorem r_fsub (C : cx g p s m args meth c own cc) {x y z : UInt32} (hd : decode cc pc = .ok (.fsub, 1)) (hz : FP.Core.fsub x y = z) (hn : vf_n32 z) (kk : WM g p l e R s m args below meth c Q tpl b n v (pc + 1) L (.float z :: st)) : WM g p l e R s m args below meth c Q tpl b n v pc L (.float y :: .float x :: st) := fun H locs ls hP hS hl hm => by
  subst hz
  exact lv_fsub C.1 C.2.1 hd hn (kk H locs ls hP hS hl hm)
theorem r_fdiv (C : cx g p s m args meth c own cc) {x y : UInt32} (hd : decode cc pc = .ok (.fdiv, 1)) (hn : vf_n32 (FP.fdiv x y)) (kk : WM g p l e R s m args below meth c Q tpl b n v (pc + 1) L (.float (FP.fdiv x y) :: st)) : WM g p l e R s m args below meth c Q tpl b n v pc L (.float y :: .float x :: st) := fun H locs ls hP hS hl hm => lv_fdiv C.1 C.2.1 hd hn (kk H locs ls hP hS hl hm)
theorem r_ddiv (C : cx g p s m args meth c own cc) {x y : UInt64} (hd : decode cc pc = .ok (.ddiv, 1)) (hn : vf_n64 (FP.ddiv x y)) (kk : WM g p l e R s m args below meth c Q tpl b n v (pc + 1) L (.double (FP.ddiv x y) :: st)) : WM g p l e R s m args below meth c Q tpl b n v pc L (.double y :: .double x :: st) := fun H locs ls hP hS hl hm => lv_ddiv C.1 C.2.1 hd hn (kk H locs ls hP hS hl hm)
theorem r_d2f (C : cx g p s m args meth c own cc) {x : UInt64} (hd : decode cc pc = .ok (.d2f, 1)) (hn : vf_n32 (FP.d2f x)) (kk : WM g p l e R s m args below meth c Q tpl b n v (pc + 1) L (.float (FP.d2f x) :: st)) : WM g p l e R s m args below meth c Q tpl b n v pc L (.double x :: st) := fun H locs ls hP hS hl hm => lv_d2f C.1 C.2.1 hd hn (kk H locs ls hP hS hl hm)
theorem r_i2f (C : cx g p s m args meth c own cc) {x : Int32} (hd : decode cc pc = .ok (.i2f, 1)) (kk : WM g p l e R s m args below meth c Q tpl b n v (pc + 1) L (.float (FP.i2f x) :: st)) : WM g p l e R s m args below meth c Q tpl b n v pc L (.int x :: st) := fun H locs ls hP hS hl hm => lv_i2f C.1 C.2.1 hd (kk H locs ls hP hS hl hm)
theorem r_i2d (C : cx g p s m args meth c own cc) {x : Int32} (hd : decode cc pc = .ok (.i2d, 1)) (kk : WM g p l e R s m args below meth c Q tpl b n v (pc + 1) L (.double (FP.i2d x) :: st)) : WM g p l e R s m args below meth c Q tpl b n v pc L (.int x :: st) := fun H locs ls hP hS hl hm => lv_i2d C.1 C.2.1 hd (kk H locs ls hP hS hl hm)
theorem r_f2i (C : cx g p s m args meth c own cc) {x : UInt32} {z : Int32} (hd : decode cc pc = .ok (.f2i, 1)) (hz : FP.Core.f2i x = z) (kk : WM g p l e R s m args below meth c Q tpl b n v (pc + 1) L (.int z :: st)) : WM g p l e R s m args below meth c Q tpl b n v pc L (.float x :: st) := fun H locs ls hP hS hl hm => by
  subst hz
  exact lv_f2i C.1 C.2.1 hd (kk H locs ls hP hS hl hm)
theorem r_rawBits (C : cx g p s m args meth c RJxf58ca cc) {x : UInt32} (hd : decode cc pc = .ok (.invokestatic 74, 3)) (hfr : Nat.ble 1 R.frames = true) (hlo : Nat.ble ((st.map fun v => v.category).sum + 15) R.locals = true) (kk : WM g p l e R s m args below meth c Q tpl b n v (pc + 3) L (.int x.toInt32 :: st)) : WM g p l e R s m args below meth c Q tpl b n v pc L (.float x :: st) := fun H locs ls hP hS hl hm => vn_f2i C.1 C.2.1 (hm.trans hl.1.symm) C.2.2.1 (C.2.2.2.1 _ kw_33_18) (C.2.2.2.1 _ kw_33_19) (C.2.2.2.1 _ kw_33_20) (C.2.2.2.1 _ kw_33_21) (Nat.le_of_ble_eq_true hfr) (Nat.le_of_ble_eq_true hlo) hd (kk H locs ls hP hS hl hm)
end ROWSF
