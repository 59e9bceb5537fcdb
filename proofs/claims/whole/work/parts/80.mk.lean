/-! ===== making: the memory grows, cell k holds E k ===== -/
def mE (b n : Nat) (E : Nat → va_E) : va_W := (List.range n).map (fun k => (b + k, E k))
def eS (E : Nat → va_E) (k : Nat) (e : va_E) : Nat → va_E := fun q => if q = k then e else E q
theorem eS_r {E : Nat → va_E} {k : Nat} {e : va_E} : eS E k e k = e := if_pos rfl
theorem eS_o {E : Nat → va_E} {k q : Nat} {e : va_E} (h : q ≠ k) : eS E k e q = E q := if_neg h
abbrev aB (b : Nat) : Nat → Prop := fun q => b ≤ q
theorem mE_get {b n k : Nat} {E : Nat → va_E} {e : va_E} (h : k < n) (he : E k = e) : (mE b n E)[k]? = some (b + k, e) := by
  simp [mE, h, he]
theorem mE_of {b n k : Nat} {E : Nat → va_E} {q : Nat × va_E} (h : (mE b n E)[k]? = some q) : k < n ∧ q = (b + k, E k) := by
  by_cases hk : k < n
  · rw [mE_get hk rfl] at h
    exact ⟨hk, (Option.some.inj h).symm⟩
  · have hz : (mE b n E).length ≤ k := by simp [mE]; omega
    rw [List.getElem?_eq_none hz] at h
    cases h
theorem mE_D {b n : Nat} {E : Nat → va_E} : va_D (aB b) (mE b n E) := by
  refine ⟨fun i j p q hi hj h => ?_, fun k q hk => ?_⟩
  · obtain ⟨-, rfl⟩ := mE_of hi
    obtain ⟨-, rfl⟩ := mE_of hj
    have h : b + i = b + j := h
    omega
  · obtain ⟨h1, rfl⟩ := mE_of hk
    exact Nat.le_add_right _ _
theorem mE_ext {b n : Nat} {E E' : Nat → va_E} (h : ∀ k, k < n → E k = E' k) : mE b n E = mE b n E' := by
  refine List.ext_getElem? (fun i => ?_)
  by_cases hi : i < n
  · rw [mE_get hi rfl, mE_get hi rfl, h i hi]
  · have z1 : (mE b n E).length ≤ i := by simp [mE]; omega
    have z2 : (mE b n E').length ≤ i := by simp [mE]; omega
    rw [List.getElem?_eq_none z1, List.getElem?_eq_none z2]
theorem mE_push {b n : Nat} {E : Nat → va_E} {e : va_E} : mE b n E ++ [(b + n, e)] = mE b (n + 1) (eS E n e) := by
  have h1 : mE b n E = mE b n (eS E n e) := mE_ext (fun k hk => (eS_o (by omega)).symm)
  rw [h1]
  unfold mE
  rw [List.range_succ, List.map_append]
  simp [eS]
theorem mE_set {b n k : Nat} {E : Nat → va_E} {e : va_E} (h : k < n) : (mE b n E).set k (b + k, e) = mE b n (eS E k e) := by
  refine List.ext_getElem? (fun i => ?_)
  have hl : k < (mE b n E).length := by simp [mE]; exact h
  by_cases hi : i = k
  · subst hi
    rw [List.getElem?_set_self hl, mE_get h eS_r]
  · rw [List.getElem?_set_ne (Ne.symm hi)]
    by_cases hin : i < n
    · rw [mE_get hin rfl, mE_get hin (eS_o hi)]
    · have z1 : (mE b n E).length ≤ i := by simp [mE]; omega
      have z2 : (mE b n (eS E k e)).length ≤ i := by simp [mE]; omega
      rw [List.getElem?_eq_none z1, List.getElem?_eq_none z2]
def cxA (g : mG) (p : Program) (s : State) (m : MethodId) (args : Array Value) (meth : Method) (c : Code) (own : String) (cc : ByteArray) (b : Nat) : Prop := cx g p s m args meth c own cc ∧ b ≤ s.heap.size ∧ meth.name = "<init>"
def WA (g : mG) (p : Program) (l : Launch) (e : Env) (R : Room) (s : State) (m : MethodId) (args : Array Value) (below : List Frame) (meth : Method) (c : Code) (Q : State → Prop) (b n : Nat) (E : Nat → va_E) (kc ks : Nat) (pc : Nat) (L : List (Option Value)) (st : List Value) : Prop :=
  ∀ (H : Heap) (locs : List Loc) (ls : Array Slot), (H.size = b + n ∧ s.heap.size + kc = b + n) → va_P g.1 vwCl (mE b n E) H → va_S (aB b) s.heap H locs → lvO ls L → c.maxLocals = L.length → W p l e R s m args below meth c H locs kc ks Q (F0 m pc ls st)
section ROWSA
variable {g : mG} {p : Program} {l : Launch} {e : Env} {R : Room} {s : State} {m : MethodId} {args : Array Value} {below : List Frame} {meth : Method} {c : Code} {Q : State → Prop} {b n : Nat} {E : Nat → va_E} {kc ks : Nat} {pc : Nat} {L : List (Option Value)} {st : List Value} {own : String} {cc : ByteArray}
theorem a_aload_n (C : cxA g p s m args meth c own cc b) {k : Fin 4} {x : Nat} (hd : decode cc pc = .ok (.aload_n k, 1)) (hx : L[(k : Nat)]? = some (some (.ref x))) (kk : WA g p l e R s m args below meth c Q b n E kc ks (pc + 1) L (.ref x :: st)) : WA g p l e R s m args below meth c Q b n E kc ks pc L st := fun H locs ls hz hP hS hl hm => lv_aload_n C.1.1 C.1.2.1 hd rfl (lvO_at hl hx) (kk H locs ls hz hP hS hl hm)
theorem a_iload_n (C : cxA g p s m args meth c own cc b) {k : Fin 4} {x : Int32} (hd : decode cc pc = .ok (.iload_n k, 1)) (hx : L[(k : Nat)]? = some (some (.int x))) (kk : WA g p l e R s m args below meth c Q b n E kc ks (pc + 1) L (.int x :: st)) : WA g p l e R s m args below meth c Q b n E kc ks pc L st := fun H locs ls hz hP hS hl hm => lv_iload_n C.1.1 C.1.2.1 hd rfl (lvO_at hl hx) (kk H locs ls hz hP hS hl hm)
theorem a_iconst (C : cxA g p s m args meth c own cc b) {i : Int} {x : Int32} (hd : decode cc pc = .ok (.iconst i, 1)) (hx : Int32.ofInt i = x) (kk : WA g p l e R s m args below meth c Q b n E kc ks (pc + 1) L (.int x :: st)) : WA g p l e R s m args below meth c Q b n E kc ks pc L st := fun H locs ls hz hP hS hl hm => lv_iconst C.1.1 C.1.2.1 hd hx (kk H locs ls hz hP hS hl hm)
theorem a_bipush (C : cxA g p s m args meth c own cc b) {i : Int} {x : Int32} (hd : decode cc pc = .ok (.bipush i, 2)) (hx : (Int8.ofInt i).toInt32 = x) (kk : WA g p l e R s m args below meth c Q b n E kc ks (pc + 2) L (.int x :: st)) : WA g p l e R s m args below meth c Q b n E kc ks pc L st := fun H locs ls hz hP hS hl hm => lv_bipush C.1.1 C.1.2.1 hd hx (kk H locs ls hz hP hS hl hm)
theorem a_sipush (C : cxA g p s m args meth c own cc b) {i : Int} {x : Int32} (hd : decode cc pc = .ok (.sipush i, 3)) (hx : (Int16.ofInt i).toInt32 = x) (kk : WA g p l e R s m args below meth c Q b n E kc ks (pc + 3) L (.int x :: st)) : WA g p l e R s m args below meth c Q b n E kc ks pc L st := fun H locs ls hz hP hS hl hm => lv_sipush C.1.1 C.1.2.1 hd hx (kk H locs ls hz hP hS hl hm)
theorem a_dup (C : cxA g p s m args meth c own cc b) {x : Value} (hd : decode cc pc = .ok (.dup, 1)) (hx : x.category = 1) (kk : WA g p l e R s m args below meth c Q b n E kc ks (pc + 1) L (x :: x :: st)) : WA g p l e R s m args below meth c Q b n E kc ks pc L (x :: st) := fun H locs ls hz hP hS hl hm => lv_dup C.1.1 C.1.2.1 hd hx (kk H locs ls hz hP hS hl hm)
theorem a_istore_n (C : cxA g p s m args meth c own cc b) {k : Fin 4} {x : Int32} (hd : decode cc pc = .ok (.istore_n k, 1)) (hn : Nat.ble (k + 1) L.length = true) (h2 : c2 L k = true) (kk : WA g p l e R s m args below meth c Q b n E kc ks (pc + 1) (L.set k (some (.int x))) st) : WA g p l e R s m args below meth c Q b n E kc ks pc L (.int x :: st) := fun H locs ls hz hP hS hl hm => lv_istore_n C.1.1 C.1.2.1 hd rfl hl (Nat.le_of_ble_eq_true hn) rfl (fun ls' hl' => kk H locs ls' hz hP hS (lvO_st h2 hl') (by rw [len_set]; exact hm))
theorem a_iinc (C : cxA g p s m args meth c own cc b) {k : Nat} {i : Int} {x y : Int32} (hd : decode cc pc = .ok (.iinc k i, 3)) (hx : L[k]? = some (some (.int x))) (hy : x + Int32.ofInt i = y) (h2 : c2 L k = true) (kk : WA g p l e R s m args below meth c Q b n E kc ks (pc + 3) (L.set k (some (.int y))) st) : WA g p l e R s m args below meth c Q b n E kc ks pc L st := fun H locs ls hz hP hS hl hm => by
  obtain ⟨q, hq⟩ := prs_at hx
  exact lv_iinc C.1.1 C.1.2.1 hd hl hq hy (List.getElem?_eq_some_iff.mp hx).1 rfl (fun ls' hl' => kk H locs ls' hz hP hS (lvO_st h2 hl') (by rw [len_set]; exact hm))
theorem a_goto (C : cxA g p s m args meth c own cc b) {off : Int} {tgt : Nat} (hd : decode cc pc = .ok (.goto off, 3)) (ht : (pc : Int) + off = (tgt : Int)) (kk : WA g p l e R s m args below meth c Q b n E kc ks tgt L st) : WA g p l e R s m args below meth c Q b n E kc ks pc L st := fun H locs ls hz hP hS hl hm => lv_goto C.1.1 C.1.2.1 hd ht (kk H locs ls hz hP hS hl hm)
theorem a_icmp_ge (C : cxA g p s m args meth c own cc b) {x y : Int32} {off : Int} {tgt : Nat} (hd : decode cc pc = .ok (.if_icmp .ge off, 3)) (ht : (pc : Int) + off = (tgt : Int)) (kt : ¬ x < y → WA g p l e R s m args below meth c Q b n E kc ks tgt L st) (kf : x < y → WA g p l e R s m args below meth c Q b n E kc ks (pc + 3) L st) : WA g p l e R s m args below meth c Q b n E kc ks pc L (.int y :: .int x :: st) := fun H locs ls hz hP hS hl hm => lv_icmp_ge C.1.1 C.1.2.1 hd ht (fun h => kt (Int32.not_lt.mpr h) H locs ls hz hP hS hl hm) (fun h => kf (Int32.not_le.mp h) H locs ls hz hP hS hl hm)
theorem a_objInit (C : cxA g p s m args meth c own cc b) {idx a : Nat} (h1 : Cond.methodLink own idx objectInit ∈ wsL_law) (hd : decode cc pc = .ok (.invokespecial idx, 3)) (hfr : Nat.ble 1 R.frames = true) (hlo : Nat.ble ((st.map fun v => v.category).sum + 12) R.locals = true) (kk : WA g p l e R s m args below meth c Q b n E kc ks (pc + 3) L st) : WA g p l e R s m args below meth c Q b n E kc ks pc L (.ref a :: st) := fun H locs ls hz hP hS hl hm =>
  W.objInit C.1.1 C.1.2.1 C.1.2.2.1 (C.1.2.2.2.1 _ h1) (C.1.2.2.2.1 _ kw_1_10) (C.1.2.2.2.1 _ kw_1_11) rfl (by show ls.size = _; rw [hl.1]; exact hm.symm) rfl hd (Nat.le_of_ble_eq_true hfr) (by have := Nat.le_of_ble_eq_true hlo; show 2 * 0 + _ + 12 ≤ _; omega) (kk H locs ls hz hP hS hl hm)
theorem mE_grow {H H1 : Heap} {ev : va_E} (hz : H.size = b + n) (hP : va_P g.1 vwCl (mE b n E) H) (o1 : ∀ q, q < H.size → H1[q]? = H[q]?) (h1 : va_P g.1 vwCl [(b + n, ev)] H1) : va_P g.1 vwCl (mE b (n + 1) (eS E n ev)) H1 := by
  rw [← mE_push]
  exact (hP.kept (fun k x hx => o1 x.1 ((hP k x hx).lt))).app h1
theorem S_grow {H H1 : Heap} {locs : List Loc} (hS : va_S (aB b) s.heap H locs) (z1 : H1.size = H.size + 1) (o1 : ∀ q, q < H.size → H1[q]? = H[q]?) : va_S (aB b) s.heap H1 locs := ⟨Nat.le_trans hS.1 (by omega), fun x h1 h2 => (o1 x (Nat.lt_of_lt_of_le h1 hS.1)).trans (hS.2.1 x h1 h2), hS.2.2⟩
theorem a_new (C : cxA g p s m args meth c own cc b) {index ci N : Nat} {Cn : String} {T : u_T} {fs : List Value} (hin : ∀ w ∈ u_ws Cn T N, w ∈ wsL_law) (ty : Nat → FieldType) (hty : ∀ k, k < N → parseFieldDescriptor (T k).2.2.1 = some (ty k)) (h1 : Cond.classLink own index Cn ∈ wsL_law) (h2 : Cond.instantiable Cn N ∈ wsL_law) (h3 : Cond.initialized Cn ∈ wsL_law) (hc : vwCl[ci]? = some (Cn, T, N)) (hfs : ∀ j, j < N → defaultValue (ty j) = vp_V fs j) (hcells : Nat.ble (kc + 1) R.cells = true) (hslots : Nat.ble (ks + N) R.slots = true) (hd : decode cc pc = .ok (.new index, 3))
    (kk : WA g p l e R s m args below meth c Q b (n + 1) (eS E n (.inr (ci, fs))) (kc + 1) (ks + N) (pc + 3) L (.ref (b + n) :: st)) : WA g p l e R s m args below meth c Q b n E kc ks pc L st := fun H locs ls hz hP hS hl hm => by
  obtain ⟨hz, hkc⟩ := hz
  have hKn := C.1.2.2.2.2.1.1.1 ci _ hc
  refine W.newcK C.1.1 C.1.2.1 C.1.2.2.1 (C.1.2.2.2.1 _ h1) (C.1.2.2.2.1 _ h2) (C.1.2.2.2.1 _ h3) rfl hd (Nat.le_of_ble_eq_true hcells) (Nat.le_of_ble_eq_true hslots) hKn.2.1 rfl fun H1 kC hkC e1 z1 o1 => ?_
  rw [hz] at e1
  have hg : va_P g.1 vwCl [(b + n, .inr (ci, fs))] H1 := fun k x hx => by
    have hz : k < 1 := (List.getElem?_eq_some_iff.mp hx).1
    rw [show k = 0 by omega] at hx
    cases hx
    exact ⟨_, hc, (u_born ty C.1.2.2.2.1 hin hKn hkC e1 hty).to hfs⟩
  have := kk H1 locs ls ⟨by rw [z1, hz]; omega, by omega⟩ (mE_grow hz hP o1 hg) (S_grow hS z1 o1) hl hm
  rw [hz]
  exact this
theorem a_newa (C : cxA g p s m args meth c own cc b) {atype : ArrayType} {ty : FieldType} {i N : Nat} {x : Int32} {a0 : vp_A} (hty : newarray.typeOf atype = ty) (hnr : ∀ cA, va_RA s cA ty = (s.vm.findClass ("[" ++ ty.toString) = some cA)) (h1 : Cond.arrayClass ty ∈ wsL_law) (hi : (tysG g)[i]? = some (g.2 i, ty)) (ha : ∀ cA : ClassId, vp_cell cA a0 = arrV cA N (fun _ => defaultValue ty)) (hx : x = nI N) (hN : Nat.ble N 1000 = true) (hb : componentBytes ty ≤ 8) (hcells : Nat.ble (kc + 1) R.cells = true) (hslots : Nat.ble (ks + N) R.slots = true) (hd : decode cc pc = .ok (.newarray atype, 2))
    (kk : WA g p l e R s m args below meth c Q b (n + 1) (eS E n (.inl (g.2 i, a0))) (kc + 1) (ks + N) (pc + 2) L (.ref (b + n) :: st)) : WA g p l e R s m args below meth c Q b n E kc ks pc L (.int x :: st) := fun H locs ls hz hP hS hl hm => by
  obtain ⟨hz, hkc⟩ := hz
  have hN := Nat.le_of_ble_eq_true hN
  subst hx
  subst hty
  refine va_newaK C.1.1 C.1.2.1 (C.1.2.2.2.1 _ h1) rfl hd rfl (nI_nneg (by omega)) (nI_clamp (show N < 2 ^ 31 by omega)) (Nat.le_trans (Nat.mul_le_mul hN hb) (by omega)) (Nat.le_of_ble_eq_true hcells) (Nat.le_of_ble_eq_true hslots) rfl fun H1 cA e1 z1 o1 hAr hNm => ?_
  have hcA : cA = g.2 i := by
    have := (C.1.2.2.2.2.1.1.2 i _ hi).2
    rw [hnr] at this
    exact Option.some.inj (hNm.symm.trans this)
  subst hcA
  rw [hz] at e1
  have hg : va_P g.1 vwCl [(b + n, .inl (g.2 i, a0))] H1 := fun k x hx => by
    have hz : k < 1 := (List.getElem?_eq_some_iff.mp hx).1
    rw [show k = 0 by omega] at hx
    cases hx
    show H1[b + n]? = some (vp_cell _ _)
    rw [ha]
    exact e1
  have := kk H1 locs ls ⟨by rw [z1, hz]; omega, by omega⟩ (mE_grow hz hP o1 hg) (S_grow hS z1 o1) hl hm
  rw [hz]
  exact this
theorem a_newq (C : cxA g p s m args meth c own cc b) {index i N : Nat} {Cn : String} {x : Int32} (h1 : Cond.classLink own index Cn ∈ wsL_law) (ho : Cn ∈ overL) (hi : (tysG g)[i]? = some (g.2 i, .object Cn)) (hx : x = nI N) (hN : Nat.ble N 1000 = true) (hcells : Nat.ble (kc + 1) R.cells = true) (hslots : Nat.ble (ks + N) R.slots = true) (hd : decode cc pc = .ok (.anewarray index, 3))
    (kk : WA g p l e R s m args below meth c Q b (n + 1) (eS E n (.inl (g.2 i, N, .inr (.inr (.inr (.inr (fun _ => none))))))) (kc + 1) (ks + N) (pc + 3) L (.ref (b + n) :: st)) : WA g p l e R s m args below meth c Q b n E kc ks pc L (.int x :: st) := fun H locs ls hz hP hS hl hm => by
  obtain ⟨hz, hkc⟩ := hz
  have hN := Nat.le_of_ble_eq_true hN
  subst hx
  have hcl := nI_clamp (show N < 2 ^ 31 by omega)
  refine W.anew C.1.1 C.1.2.1 C.1.2.2.1 (C.1.2.2.2.1 _ h1) (va_AO.use (C.1.2.2.2.2.1.2.2 _ ho)) rfl hd rfl (nI_nneg (by omega)) (by rw [hcl]; omega) (Nat.le_of_ble_eq_true hcells) (by rw [hcl]; exact Nat.le_of_ble_eq_true hslots) fun cA kA comp f1 f2 f3 f4 => ?_
  rw [hcl]
  have hcA : cA = g.2 i := by
    obtain ⟨kA', comp', q1, q2, q3, q4⟩ := (C.1.2.2.2.2.1.1.2 i _ hi).2
    exact Option.some.inj (f1.symm.trans q4)
  subst hcA
  generalize hH1 : H.push ({ cls := g.2 i, slots := Array.replicate N .null, vm := .none } : Cell) = H1
  have z1 : H1.size = H.size + 1 := by rw [← hH1, Array.size_push]
  have e1 : H1[H.size]? = some (arrV (g.2 i) N (fun _ => .null)) := by rw [← hH1, Array.getElem?_push_size, ← arrV_new]
  have o1 : ∀ q : Nat, q < H.size → H1[q]? = H[q]? := fun q hq => by rw [← hH1, Array.getElem?_push, if_neg (Nat.ne_of_lt hq)]
  rw [hz] at e1
  have hg : va_P g.1 vwCl [(b + n, .inl (g.2 i, N, .inr (.inr (.inr (.inr (fun _ => none))))))] H1 := fun k x hx => by
    have hz : k < 1 := (List.getElem?_eq_some_iff.mp hx).1
    rw [show k = 0 by omega] at hx
    cases hx
    show H1[b + n]? = some (vp_cell _ _)
    rw [vp_cell_q]
    exact e1
  have := kk H1 locs ls ⟨by rw [z1, hz]; omega, by omega⟩ (mE_grow hz hP o1 hg) (S_grow hS z1 o1) hl hm
  rw [hz]
  exact this
end ROWSA
