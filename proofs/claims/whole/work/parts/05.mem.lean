/-! ===== the memory: n cells from b on, cell k by the template tpl k out of its row of ints v k ===== -/
abbrev mV : Type := Nat → Nat → Int32
abbrev mT : Type := Nat → (Nat → Int32) → va_E
/-- the tables' classes, and the array classes: 0 int, 1 char, 2 House, 3 Incident, 4 Person, 5 Region, 6 StandIn -/
abbrev mG : Type := va_G × (Nat → ClassId)
def tysG (g : mG) : List (ClassId × FieldType) := [(g.2 0, .int), (g.2 1, .char), (g.2 2, .object RX1), (g.2 3, .object RX2), (g.2 4, .object RX3), (g.2 5, .object RX4), (g.2 6, .object RX8)]
def mW (b n : Nat) (tpl : mT) (v : mV) : va_W := (List.range n).map (fun k => (b + k, tpl k (v k)))
def aR (b n : Nat) : Nat → Prop := fun q => b ≤ q ∧ q < b + n
/-- one int of one cell -/
def u2 (v : mV) (k j : Nat) (x : Int32) : mV := fun k' => if k' = k then upd (v k') j x else v k'
theorem mW_get {b n k : Nat} {tpl : mT} {v : mV} (h : k < n) : (mW b n tpl v)[k]? = some (b + k, tpl k (v k)) := by
  simp [mW, h]
theorem mW_getE {b n k : Nat} {tpl : mT} {v : mV} {e : va_E} (h : k < n) (he : tpl k (v k) = e) : (mW b n tpl v)[k]? = some (b + k, e) := by
  rw [mW_get h, he]
theorem mW_of {b n k : Nat} {tpl : mT} {v : mV} {q : Nat × va_E} (h : (mW b n tpl v)[k]? = some q) : k < n ∧ q = (b + k, tpl k (v k)) := by
  by_cases hk : k < n
  · rw [mW_get hk] at h
    exact ⟨hk, (Option.some.inj h).symm⟩
  · have hz : (mW b n tpl v).length ≤ k := by simp [mW]; omega
    rw [List.getElem?_eq_none hz] at h
    cases h
theorem mW_D {b n : Nat} {tpl : mT} {v : mV} : va_D (aR b n) (mW b n tpl v) := by
  refine ⟨fun i j p q hi hj h => ?_, fun k q hk => ?_⟩
  · obtain ⟨-, rfl⟩ := mW_of hi
    obtain ⟨-, rfl⟩ := mW_of hj
    have h : b + i = b + j := h
    omega
  · obtain ⟨h1, rfl⟩ := mW_of hk
    exact ⟨Nat.le_add_right _ _, Nat.add_lt_add_left h1 _⟩
theorem mW_set {b n k j : Nat} {x : Int32} {tpl : mT} {v : mV} {e : va_E} (h : k < n) (he : e = tpl k (upd (v k) j x)) : (mW b n tpl v).set k (b + k, e) = mW b n tpl (u2 v k j x) := by
  refine List.ext_getElem? (fun i => ?_)
  have hl : k < (mW b n tpl v).length := by simp [mW]; exact h
  by_cases hi : i = k
  · subst hi
    rw [List.getElem?_set_self hl, mW_get h]
    simp [u2, he]
  · rw [List.getElem?_set_ne (Ne.symm hi)]
    by_cases hin : i < n
    · rw [mW_get hin, mW_get hin]
      simp [u2, hi]
    · have z1 : (mW b n tpl v).length ≤ i := by simp [mW]; omega
      have z2 : (mW b n tpl (u2 v k j x)).length ≤ i := by simp [mW]; omega
      rw [List.getElem?_eq_none z1, List.getElem?_eq_none z2]
theorem mW_row {b n k : Nat} {r : Nat → Int32} {tpl : mT} {v : mV} {e : va_E} (h : k < n) (he : e = tpl k r) : (mW b n tpl v).set k (b + k, e) = mW b n tpl (fun k' => if k' = k then r else v k') := by
  refine List.ext_getElem? (fun i => ?_)
  have hl : k < (mW b n tpl v).length := by simp [mW]; exact h
  by_cases hi : i = k
  · subst hi
    rw [List.getElem?_set_self hl, mW_get h]
    simp [he]
  · rw [List.getElem?_set_ne (Ne.symm hi)]
    by_cases hin : i < n
    · rw [mW_get hin, mW_get hin]
      simp [hi]
    · have z1 : (mW b n tpl v).length ≤ i := by simp [mW]; omega
      have z2 : (mW b n tpl (fun k' => if k' = k then r else v k')).length ≤ i := by simp [mW]; omega
      rw [List.getElem?_eq_none z1, List.getElem?_eq_none z2]
/-! the locals: a row of values, none where nothing is known -/
def prs : Nat → List (Option Value) → List (Nat × Value)
  | _, [] => []
  | i, none :: t => prs (i + 1) t
  | i, some v :: t => (i, v) :: prs (i + 1) t
theorem prs_mem : ∀ (L : List (Option Value)) (i : Nat) (q : Nat × Value), q ∈ prs i L ↔ i ≤ q.1 ∧ L[q.1 - i]? = some (some q.2)
  | [], i, q => by simp [prs]
  | none :: t, i, q => by
    rw [prs, prs_mem t (i + 1) q]
    constructor
    · rintro ⟨h1, h2⟩
      refine ⟨by omega, ?_⟩
      rw [show q.1 - i = (q.1 - (i + 1)) + 1 by omega, List.getElem?_cons_succ]
      exact h2
    · rintro ⟨h1, h2⟩
      by_cases hq : q.1 = i
      · rw [hq, Nat.sub_self, List.getElem?_cons_zero] at h2
        cases h2
      · refine ⟨by omega, ?_⟩
        rw [show q.1 - i = (q.1 - (i + 1)) + 1 by omega, List.getElem?_cons_succ] at h2
        exact h2
  | some v :: t, i, q => by
    rw [prs, List.mem_cons, prs_mem t (i + 1) q]
    constructor
    · rintro (h | ⟨h1, h2⟩)
      · subst h
        simp
      · refine ⟨by omega, ?_⟩
        rw [show q.1 - i = (q.1 - (i + 1)) + 1 by omega, List.getElem?_cons_succ]
        exact h2
    · rintro ⟨h1, h2⟩
      by_cases hq : q.1 = i
      · left
        rw [hq, Nat.sub_self, List.getElem?_cons_zero] at h2
        obtain ⟨a, w⟩ := q
        cases h2
        subst hq
        rfl
      · right
        refine ⟨by omega, ?_⟩
        rw [show q.1 - i = (q.1 - (i + 1)) + 1 by omega, List.getElem?_cons_succ] at h2
        exact h2
def lvO (ls : Array Slot) (L : List (Option Value)) : Prop := lv_has ls L.length (prs 0 L)
theorem lvO_at {ls : Array Slot} {L : List (Option Value)} (h : lvO ls L) {i : Nat} {w : Value} (hw : L[i]? = some (some w)) : ls[i]? = some (.val w) :=
  h.2.2 (i, w) ((prs_mem L 0 (i, w)).mpr ⟨Nat.zero_le _, by simpa using hw⟩)
def c2 (L : List (Option Value)) (i : Nat) : Bool := match i with
  | 0 => true
  | j + 1 => match L[j]? with
    | some (some w) => w.category == 1
    | _ => true
theorem lvO_st {L : List (Option Value)} {i : Nat} {w : Value} (h2 : c2 L i = true) {ls' : Array Slot} (h : lv_has ls' L.length ((i, w) :: (prs 0 L).filter (fun q => !(q.1 == i) && !(q.1 + 1 == i && q.2.category == 2)))) : lvO ls' (L.set i (some w)) := by
  refine ⟨by rw [List.length_set]; exact h.1, h.2.1, fun q hq0 => h.2.2 q ?_⟩
  obtain ⟨-, hq⟩ := (prs_mem _ 0 q).mp hq0
  rw [Nat.sub_zero] at hq
  by_cases hi : q.1 = i
  · rw [hi] at hq
    have hl : i < (L.set i (some w)).length := (List.getElem?_eq_some_iff.mp hq).1
    rw [List.length_set] at hl
    rw [List.getElem?_set_self hl] at hq
    obtain ⟨a, x⟩ := q
    cases hq
    subst hi
    exact List.mem_cons_self
  · rw [List.getElem?_set_ne (Ne.symm hi)] at hq
    refine List.mem_cons_of_mem _ (List.mem_filter.mpr ⟨(prs_mem L 0 q).mpr ⟨Nat.zero_le _, by simpa using hq⟩, ?_⟩)
    by_cases hc : q.1 + 1 = i
    · subst hc
      have h3 : q.2.category = 1 := by
        have h4 : (match L[q.1]? with
          | some (some w) => w.category == 1
          | _ => true) = true := h2
        rw [hq] at h4
        exact eq_of_beq h4
      simp [h3]
    · simp [hi, hc]
/-! the standing facts of a walk -/
def nestL : List (String × Nat × MethodName × String) := [(RX5, 29, yX3_init, RX10), (RX3, 9, yX7_init, RX10), (RX5, 30, yX4_init, RX10), (RX4, 11, yX7_init, RX10), (RX5, 31, yX8_init, RX10), (RX1, 26, yX9_init, RX10), (RX1, 38, yX2_init, RX10), (RX10, 28, yX6_init, RX10), (RX5, 113, yX10_hourOfDay, RX10), (RX1, 119, yX10_hourOfDay, RX10)]
def overL : List String := [RX1, RX2, RX3, RX4, RX8]
/-- what the tables say, beside the words -/
def KK (g : mG) (U : State) : Prop := va_K g.1 vwCl (tysG g) U ∧ (∀ q ∈ nestL, va_Nw (.methodLinkNest q.1 q.2.1 q.2.2.1 q.2.2.2) U) ∧ ∀ q ∈ overL, va_AO q U
theorem KK_same {g : mG} {u U : State} (h : u.vm = U.vm) (hK : KK g u) : KK g U := ⟨va_K.moved (h ▸ Vm.Alike.refl u.vm) hK.1, fun q hq => va_Nw.same rfl h (hK.2.1 q hq), fun q hq => va_AO.moved (h ▸ Vm.Alike.refl u.vm) (hK.2.2 q hq)⟩
theorem KK_all {g : mG} {s U : State} (hK : KK g s) (hW : s.WarmedH U.vm) : KK g U := ⟨va_K.moved hW.alike hK.1, fun q hq => va_Nw.warmM hW (hK.2.1 q hq), fun q hq => va_AO.moved hW.alike (hK.2.2 q hq)⟩
def cx (g : mG) (p : Program) (s : State) (m : MethodId) (args : Array Value) (meth : Method) (c : Code) (own : String) (cc : ByteArray) : Prop :=
  p.tables.exec = Jvm.exec ∧ c.code = cc ∧ s.vm.findClass own = some m.cls ∧ (∀ w ∈ wsL_law, w.before args s = true) ∧ KK g s ∧ meth.locks = false
def WM (g : mG) (p : Program) (l : Launch) (e : Env) (R : Room) (s : State) (m : MethodId) (args : Array Value) (below : List Frame) (meth : Method) (c : Code) (Q : State → Prop) (tpl : mT) (b n : Nat) (v : mV) (pc : Nat) (L : List (Option Value)) (st : List Value) : Prop :=
  ∀ (H : Heap) (locs : List Loc) (ls : Array Slot), va_P g.1 vwCl (mW b n tpl v) H → va_S (aR b n) s.heap H locs → lvO ls L → c.maxLocals = L.length → W p l e R s m args below meth c H locs 0 0 Q (F0 m pc ls st)
section ROWS
variable {g : mG} {p : Program} {l : Launch} {e : Env} {R : Room} {s : State} {m : MethodId} {args : Array Value} {below : List Frame} {meth : Method} {c : Code} {Q : State → Prop} {tpl : mT} {b n : Nat} {v : mV} {pc : Nat} {L : List (Option Value)} {st : List Value} {own : String} {cc : ByteArray}
theorem r_iconst (C : cx g p s m args meth c own cc) {i : Int} {x : Int32} (hd : decode cc pc = .ok (.iconst i, 1)) (hx : Int32.ofInt i = x) (k : WM g p l e R s m args below meth c Q tpl b n v (pc + 1) L (.int x :: st)) : WM g p l e R s m args below meth c Q tpl b n v pc L st := fun H locs ls hP hS hl hm => lv_iconst C.1 C.2.1 hd hx (k H locs ls hP hS hl hm)
theorem r_bipush (C : cx g p s m args meth c own cc) {i : Int} {x : Int32} (hd : decode cc pc = .ok (.bipush i, 2)) (hx : (Int8.ofInt i).toInt32 = x) (k : WM g p l e R s m args below meth c Q tpl b n v (pc + 2) L (.int x :: st)) : WM g p l e R s m args below meth c Q tpl b n v pc L st := fun H locs ls hP hS hl hm => lv_bipush C.1 C.2.1 hd hx (k H locs ls hP hS hl hm)
theorem r_sipush (C : cx g p s m args meth c own cc) {i : Int} {x : Int32} (hd : decode cc pc = .ok (.sipush i, 3)) (hx : (Int16.ofInt i).toInt32 = x) (k : WM g p l e R s m args below meth c Q tpl b n v (pc + 3) L (.int x :: st)) : WM g p l e R s m args below meth c Q tpl b n v pc L st := fun H locs ls hP hS hl hm => lv_sipush C.1 C.2.1 hd hx (k H locs ls hP hS hl hm)
theorem r_iload_n (C : cx g p s m args meth c own cc) {k : Fin 4} {x : Int32} (hd : decode cc pc = .ok (.iload_n k, 1)) (hx : L[(k : Nat)]? = some (some (.int x))) (kk : WM g p l e R s m args below meth c Q tpl b n v (pc + 1) L (.int x :: st)) : WM g p l e R s m args below meth c Q tpl b n v pc L st := fun H locs ls hP hS hl hm => lv_iload_n C.1 C.2.1 hd rfl (lvO_at hl hx) (kk H locs ls hP hS hl hm)
theorem r_iload (C : cx g p s m args meth c own cc) {k : Nat} {x : Int32} (hd : decode cc pc = .ok (.iload k, 2)) (hx : L[k]? = some (some (.int x))) (kk : WM g p l e R s m args below meth c Q tpl b n v (pc + 2) L (.int x :: st)) : WM g p l e R s m args below meth c Q tpl b n v pc L st := fun H locs ls hP hS hl hm => lv_iload C.1 C.2.1 hd (lvO_at hl hx) (kk H locs ls hP hS hl hm)
theorem r_aload_n (C : cx g p s m args meth c own cc) {k : Fin 4} {x : Nat} (hd : decode cc pc = .ok (.aload_n k, 1)) (hx : L[(k : Nat)]? = some (some (.ref x))) (kk : WM g p l e R s m args below meth c Q tpl b n v (pc + 1) L (.ref x :: st)) : WM g p l e R s m args below meth c Q tpl b n v pc L st := fun H locs ls hP hS hl hm => lv_aload_n C.1 C.2.1 hd rfl (lvO_at hl hx) (kk H locs ls hP hS hl hm)
theorem r_aload (C : cx g p s m args meth c own cc) {k : Nat} {x : Nat} (hd : decode cc pc = .ok (.aload k, 2)) (hx : L[k]? = some (some (.ref x))) (kk : WM g p l e R s m args below meth c Q tpl b n v (pc + 2) L (.ref x :: st)) : WM g p l e R s m args below meth c Q tpl b n v pc L st := fun H locs ls hP hS hl hm => lv_aload C.1 C.2.1 hd (lvO_at hl hx) (kk H locs ls hP hS hl hm)
theorem len_set (L : List (Option Value)) (i : Nat) (w : Option Value) : (L.set i w).length = L.length := List.length_set
theorem r_istore_n (C : cx g p s m args meth c own cc) {k : Fin 4} {x : Int32} (hd : decode cc pc = .ok (.istore_n k, 1)) (hn : Nat.ble (k + 1) L.length = true) (h2 : c2 L k = true) (kk : WM g p l e R s m args below meth c Q tpl b n v (pc + 1) (L.set k (some (.int x))) st) : WM g p l e R s m args below meth c Q tpl b n v pc L (.int x :: st) := fun H locs ls hP hS hl hm => lv_istore_n C.1 C.2.1 hd rfl hl (Nat.le_of_ble_eq_true hn) rfl (fun ls' hl' => kk H locs ls' hP hS (lvO_st h2 hl') (by rw [len_set]; exact hm))
theorem r_istore (C : cx g p s m args meth c own cc) {k : Nat} {x : Int32} (hd : decode cc pc = .ok (.istore k, 2)) (hn : Nat.ble (k + 1) L.length = true) (h2 : c2 L k = true) (kk : WM g p l e R s m args below meth c Q tpl b n v (pc + 2) (L.set k (some (.int x))) st) : WM g p l e R s m args below meth c Q tpl b n v pc L (.int x :: st) := fun H locs ls hP hS hl hm => lv_istore C.1 C.2.1 hd hl (Nat.le_of_ble_eq_true hn) rfl (fun ls' hl' => kk H locs ls' hP hS (lvO_st h2 hl') (by rw [len_set]; exact hm))
theorem r_astore_n (C : cx g p s m args meth c own cc) {k : Fin 4} {x : Nat} (hd : decode cc pc = .ok (.astore_n k, 1)) (hn : Nat.ble (k + 1) L.length = true) (h2 : c2 L k = true) (kk : WM g p l e R s m args below meth c Q tpl b n v (pc + 1) (L.set k (some (.ref x))) st) : WM g p l e R s m args below meth c Q tpl b n v pc L (.ref x :: st) := fun H locs ls hP hS hl hm => lv_astore_n C.1 C.2.1 hd rfl hl (Nat.le_of_ble_eq_true hn) rfl (fun ls' hl' => kk H locs ls' hP hS (lvO_st h2 hl') (by rw [len_set]; exact hm))
theorem r_astore (C : cx g p s m args meth c own cc) {k : Nat} {x : Nat} (hd : decode cc pc = .ok (.astore k, 2)) (hn : Nat.ble (k + 1) L.length = true) (h2 : c2 L k = true) (kk : WM g p l e R s m args below meth c Q tpl b n v (pc + 2) (L.set k (some (.ref x))) st) : WM g p l e R s m args below meth c Q tpl b n v pc L (.ref x :: st) := fun H locs ls hP hS hl hm => lv_astore C.1 C.2.1 hd hl (Nat.le_of_ble_eq_true hn) rfl (fun ls' hl' => kk H locs ls' hP hS (lvO_st h2 hl') (by rw [len_set]; exact hm))
theorem prs_at {L : List (Option Value)} {i : Nat} {w : Value} (hw : L[i]? = some (some w)) : ∃ k : Nat, (prs 0 L)[k]? = some (i, w) := List.getElem?_of_mem ((prs_mem L 0 (i, w)).mpr ⟨Nat.zero_le _, by simpa using hw⟩)
theorem r_iinc (C : cx g p s m args meth c own cc) {k : Nat} {i : Int} {x y : Int32} (hd : decode cc pc = .ok (.iinc k i, 3)) (hx : L[k]? = some (some (.int x))) (hy : x + Int32.ofInt i = y) (h2 : c2 L k = true) (kk : WM g p l e R s m args below meth c Q tpl b n v (pc + 3) (L.set k (some (.int y))) st) : WM g p l e R s m args below meth c Q tpl b n v pc L st := fun H locs ls hP hS hl hm => by
  obtain ⟨q, hq⟩ := prs_at hx
  exact lv_iinc C.1 C.2.1 hd hl hq hy (List.getElem?_eq_some_iff.mp hx).1 rfl (fun ls' hl' => kk H locs ls' hP hS (lvO_st h2 hl') (by rw [len_set]; exact hm))
theorem r_dup (C : cx g p s m args meth c own cc) {x : Value} (hd : decode cc pc = .ok (.dup, 1)) (hx : x.category = 1) (kk : WM g p l e R s m args below meth c Q tpl b n v (pc + 1) L (x :: x :: st)) : WM g p l e R s m args below meth c Q tpl b n v pc L (x :: st) := fun H locs ls hP hS hl hm => lv_dup C.1 C.2.1 hd hx (kk H locs ls hP hS hl hm)
theorem r_dup2 (C : cx g p s m args meth c own cc) {x y : Value} (hd : decode cc pc = .ok (.dup2, 1)) (hx : x.category = 1) (hy : y.category = 1) (kk : WM g p l e R s m args below meth c Q tpl b n v (pc + 1) L (x :: y :: x :: y :: st)) : WM g p l e R s m args below meth c Q tpl b n v pc L (x :: y :: st) := fun H locs ls hP hS hl hm => lv_dup2_11 C.1 C.2.1 hd hx hy (kk H locs ls hP hS hl hm)
theorem r_goto (C : cx g p s m args meth c own cc) {off : Int} {tgt : Nat} (hd : decode cc pc = .ok (.goto off, 3)) (ht : (pc : Int) + off = (tgt : Int)) (kk : WM g p l e R s m args below meth c Q tpl b n v tgt L st) : WM g p l e R s m args below meth c Q tpl b n v pc L st := fun H locs ls hP hS hl hm => lv_goto C.1 C.2.1 hd ht (kk H locs ls hP hS hl hm)
theorem r_iadd (C : cx g p s m args meth c own cc) {x y : Int32} (hd : decode cc pc = .ok (.iadd, 1)) (kk : WM g p l e R s m args below meth c Q tpl b n v (pc + 1) L (.int (x + y) :: st)) : WM g p l e R s m args below meth c Q tpl b n v pc L (.int y :: .int x :: st) := fun H locs ls hP hS hl hm => lv_iadd C.1 C.2.1 hd (kk H locs ls hP hS hl hm)
theorem r_isub (C : cx g p s m args meth c own cc) {x y : Int32} (hd : decode cc pc = .ok (.isub, 1)) (kk : WM g p l e R s m args below meth c Q tpl b n v (pc + 1) L (.int (x - y) :: st)) : WM g p l e R s m args below meth c Q tpl b n v pc L (.int y :: .int x :: st) := fun H locs ls hP hS hl hm => lv_isub C.1 C.2.1 hd (kk H locs ls hP hS hl hm)
theorem r_imul (C : cx g p s m args meth c own cc) {x y : Int32} (hd : decode cc pc = .ok (.imul, 1)) (kk : WM g p l e R s m args below meth c Q tpl b n v (pc + 1) L (.int (x * y) :: st)) : WM g p l e R s m args below meth c Q tpl b n v pc L (.int y :: .int x :: st) := fun H locs ls hP hS hl hm => lv_imul C.1 C.2.1 hd (kk H locs ls hP hS hl hm)
theorem r_iand (C : cx g p s m args meth c own cc) {x y : Int32} (hd : decode cc pc = .ok (.iand, 1)) (kk : WM g p l e R s m args below meth c Q tpl b n v (pc + 1) L (.int (x &&& y) :: st)) : WM g p l e R s m args below meth c Q tpl b n v pc L (.int y :: .int x :: st) := fun H locs ls hP hS hl hm => lv_iand C.1 C.2.1 hd (kk H locs ls hP hS hl hm)
theorem r_ior (C : cx g p s m args meth c own cc) {x y : Int32} (hd : decode cc pc = .ok (.ior, 1)) (kk : WM g p l e R s m args below meth c Q tpl b n v (pc + 1) L (.int (x ||| y) :: st)) : WM g p l e R s m args below meth c Q tpl b n v pc L (.int y :: .int x :: st) := fun H locs ls hP hS hl hm => lv_ior C.1 C.2.1 hd (kk H locs ls hP hS hl hm)
theorem r_ixor (C : cx g p s m args meth c own cc) {x y : Int32} (hd : decode cc pc = .ok (.ixor, 1)) (kk : WM g p l e R s m args below meth c Q tpl b n v (pc + 1) L (.int (x ^^^ y) :: st)) : WM g p l e R s m args below meth c Q tpl b n v pc L (.int y :: .int x :: st) := fun H locs ls hP hS hl hm => lv_ixor C.1 C.2.1 hd (kk H locs ls hP hS hl hm)
theorem r_idiv (C : cx g p s m args meth c own cc) {x y : Int32} (hd : decode cc pc = .ok (.idiv, 1)) (hne : ¬ y = 0) (kk : WM g p l e R s m args below meth c Q tpl b n v (pc + 1) L (.int (x / y) :: st)) : WM g p l e R s m args below meth c Q tpl b n v pc L (.int y :: .int x :: st) := fun H locs ls hP hS hl hm => lv_idiv C.1 C.2.1 hd hne (kk H locs ls hP hS hl hm)
theorem r_irem (C : cx g p s m args meth c own cc) {x y : Int32} (hd : decode cc pc = .ok (.irem, 1)) (hne : ¬ y = 0) (kk : WM g p l e R s m args below meth c Q tpl b n v (pc + 1) L (.int (x - x / y * y) :: st)) : WM g p l e R s m args below meth c Q tpl b n v pc L (.int y :: .int x :: st) := fun H locs ls hP hS hl hm => lv_irem C.1 C.2.1 hd hne (kk H locs ls hP hS hl hm)
theorem r_icmp_eq (C : cx g p s m args meth c own cc) {x y : Int32} {off : Int} {tgt : Nat} (hd : decode cc pc = .ok (.if_icmp .eq off, 3)) (ht : (pc : Int) + off = (tgt : Int)) (kt : x = y → WM g p l e R s m args below meth c Q tpl b n v tgt L st) (kf : ¬ x = y → WM g p l e R s m args below meth c Q tpl b n v (pc + 3) L st) : WM g p l e R s m args below meth c Q tpl b n v pc L (.int y :: .int x :: st) := fun H locs ls hP hS hl hm => lv_icmp_eq C.1 C.2.1 hd ht (fun h => kt ((id) h) H locs ls hP hS hl hm) (fun h => kf ((id) h) H locs ls hP hS hl hm)
theorem r_icmp_ne (C : cx g p s m args meth c own cc) {x y : Int32} {off : Int} {tgt : Nat} (hd : decode cc pc = .ok (.if_icmp .ne off, 3)) (ht : (pc : Int) + off = (tgt : Int)) (kt : ¬ x = y → WM g p l e R s m args below meth c Q tpl b n v tgt L st) (kf : x = y → WM g p l e R s m args below meth c Q tpl b n v (pc + 3) L st) : WM g p l e R s m args below meth c Q tpl b n v pc L (.int y :: .int x :: st) := fun H locs ls hP hS hl hm => lv_icmp_ne C.1 C.2.1 hd ht (fun h => kt ((id) h) H locs ls hP hS hl hm) (fun h => kf h H locs ls hP hS hl hm)
theorem r_icmp_lt (C : cx g p s m args meth c own cc) {x y : Int32} {off : Int} {tgt : Nat} (hd : decode cc pc = .ok (.if_icmp .lt off, 3)) (ht : (pc : Int) + off = (tgt : Int)) (kt : x < y → WM g p l e R s m args below meth c Q tpl b n v tgt L st) (kf : ¬ x < y → WM g p l e R s m args below meth c Q tpl b n v (pc + 3) L st) : WM g p l e R s m args below meth c Q tpl b n v pc L (.int y :: .int x :: st) := fun H locs ls hP hS hl hm => lv_icmp_lt C.1 C.2.1 hd ht (fun h => kt ((id) h) H locs ls hP hS hl hm) (fun h => kf ((id) h) H locs ls hP hS hl hm)
theorem r_icmp_ge (C : cx g p s m args meth c own cc) {x y : Int32} {off : Int} {tgt : Nat} (hd : decode cc pc = .ok (.if_icmp .ge off, 3)) (ht : (pc : Int) + off = (tgt : Int)) (kt : ¬ x < y → WM g p l e R s m args below meth c Q tpl b n v tgt L st) (kf : x < y → WM g p l e R s m args below meth c Q tpl b n v (pc + 3) L st) : WM g p l e R s m args below meth c Q tpl b n v pc L (.int y :: .int x :: st) := fun H locs ls hP hS hl hm => lv_icmp_ge C.1 C.2.1 hd ht (fun h => kt ((fun h => Int32.not_lt.mpr h) h) H locs ls hP hS hl hm) (fun h => kf ((fun h => Int32.not_le.mp h) h) H locs ls hP hS hl hm)
theorem r_icmp_gt (C : cx g p s m args meth c own cc) {x y : Int32} {off : Int} {tgt : Nat} (hd : decode cc pc = .ok (.if_icmp .gt off, 3)) (ht : (pc : Int) + off = (tgt : Int)) (kt : y < x → WM g p l e R s m args below meth c Q tpl b n v tgt L st) (kf : ¬ y < x → WM g p l e R s m args below meth c Q tpl b n v (pc + 3) L st) : WM g p l e R s m args below meth c Q tpl b n v pc L (.int y :: .int x :: st) := fun H locs ls hP hS hl hm => lv_icmp_gt C.1 C.2.1 hd ht (fun h => kt ((id) h) H locs ls hP hS hl hm) (fun h => kf ((id) h) H locs ls hP hS hl hm)
theorem r_icmp_le (C : cx g p s m args meth c own cc) {x y : Int32} {off : Int} {tgt : Nat} (hd : decode cc pc = .ok (.if_icmp .le off, 3)) (ht : (pc : Int) + off = (tgt : Int)) (kt : ¬ y < x → WM g p l e R s m args below meth c Q tpl b n v tgt L st) (kf : y < x → WM g p l e R s m args below meth c Q tpl b n v (pc + 3) L st) : WM g p l e R s m args below meth c Q tpl b n v pc L (.int y :: .int x :: st) := fun H locs ls hP hS hl hm => lv_icmp_le C.1 C.2.1 hd ht (fun h => kt ((fun h => Int32.not_lt.mpr h) h) H locs ls hP hS hl hm) (fun h => kf ((fun h => Int32.not_le.mp h) h) H locs ls hP hS hl hm)
theorem r_if_eq (C : cx g p s m args meth c own cc) {x : Int32} {off : Int} {tgt : Nat} (hd : decode cc pc = .ok (.ifCond .eq off, 3)) (ht : (pc : Int) + off = (tgt : Int)) (kt : x = 0 → WM g p l e R s m args below meth c Q tpl b n v tgt L st) (kf : ¬ x = 0 → WM g p l e R s m args below meth c Q tpl b n v (pc + 3) L st) : WM g p l e R s m args below meth c Q tpl b n v pc L (.int x :: st) := fun H locs ls hP hS hl hm => lv_if_eq C.1 C.2.1 hd ht (fun h => kt ((id) h) H locs ls hP hS hl hm) (fun h => kf ((id) h) H locs ls hP hS hl hm)
theorem r_if_ne (C : cx g p s m args meth c own cc) {x : Int32} {off : Int} {tgt : Nat} (hd : decode cc pc = .ok (.ifCond .ne off, 3)) (ht : (pc : Int) + off = (tgt : Int)) (kt : ¬ x = 0 → WM g p l e R s m args below meth c Q tpl b n v tgt L st) (kf : x = 0 → WM g p l e R s m args below meth c Q tpl b n v (pc + 3) L st) : WM g p l e R s m args below meth c Q tpl b n v pc L (.int x :: st) := fun H locs ls hP hS hl hm => lv_if_ne C.1 C.2.1 hd ht (fun h => kt ((id) h) H locs ls hP hS hl hm) (fun h => kf h H locs ls hP hS hl hm)
theorem r_if_lt (C : cx g p s m args meth c own cc) {x : Int32} {off : Int} {tgt : Nat} (hd : decode cc pc = .ok (.ifCond .lt off, 3)) (ht : (pc : Int) + off = (tgt : Int)) (kt : x < 0 → WM g p l e R s m args below meth c Q tpl b n v tgt L st) (kf : ¬ x < 0 → WM g p l e R s m args below meth c Q tpl b n v (pc + 3) L st) : WM g p l e R s m args below meth c Q tpl b n v pc L (.int x :: st) := fun H locs ls hP hS hl hm => lv_if_lt C.1 C.2.1 hd ht (fun h => kt ((id) h) H locs ls hP hS hl hm) (fun h => kf ((id) h) H locs ls hP hS hl hm)
theorem r_if_ge (C : cx g p s m args meth c own cc) {x : Int32} {off : Int} {tgt : Nat} (hd : decode cc pc = .ok (.ifCond .ge off, 3)) (ht : (pc : Int) + off = (tgt : Int)) (kt : ¬ x < 0 → WM g p l e R s m args below meth c Q tpl b n v tgt L st) (kf : x < 0 → WM g p l e R s m args below meth c Q tpl b n v (pc + 3) L st) : WM g p l e R s m args below meth c Q tpl b n v pc L (.int x :: st) := fun H locs ls hP hS hl hm => lv_if_ge C.1 C.2.1 hd ht (fun h => kt ((fun h => Int32.not_lt.mpr h) h) H locs ls hP hS hl hm) (fun h => kf ((fun h => Int32.not_le.mp h) h) H locs ls hP hS hl hm)
theorem r_if_gt (C : cx g p s m args meth c own cc) {x : Int32} {off : Int} {tgt : Nat} (hd : decode cc pc = .ok (.ifCond .gt off, 3)) (ht : (pc : Int) + off = (tgt : Int)) (kt : 0 < x → WM g p l e R s m args below meth c Q tpl b n v tgt L st) (kf : ¬ 0 < x → WM g p l e R s m args below meth c Q tpl b n v (pc + 3) L st) : WM g p l e R s m args below meth c Q tpl b n v pc L (.int x :: st) := fun H locs ls hP hS hl hm => lv_if_gt C.1 C.2.1 hd ht (fun h => kt ((id) h) H locs ls hP hS hl hm) (fun h => kf ((id) h) H locs ls hP hS hl hm)
theorem r_if_le (C : cx g p s m args meth c own cc) {x : Int32} {off : Int} {tgt : Nat} (hd : decode cc pc = .ok (.ifCond .le off, 3)) (ht : (pc : Int) + off = (tgt : Int)) (kt : ¬ 0 < x → WM g p l e R s m args below meth c Q tpl b n v tgt L st) (kf : 0 < x → WM g p l e R s m args below meth c Q tpl b n v (pc + 3) L st) : WM g p l e R s m args below meth c Q tpl b n v pc L (.int x :: st) := fun H locs ls hP hS hl hm => lv_if_le C.1 C.2.1 hd ht (fun h => kt ((fun h => Int32.not_lt.mpr h) h) H locs ls hP hS hl hm) (fun h => kf ((fun h => Int32.not_le.mp h) h) H locs ls hP hS hl hm)
theorem r_ishl (C : cx g p s m args meth c own cc) {x y : Int32} (hd : decode cc pc = .ok (.ishl, 1)) (kk : WM g p l e R s m args below meth c Q tpl b n v (pc + 1) L (.int (x <<< (y &&& 31)) :: st)) : WM g p l e R s m args below meth c Q tpl b n v pc L (.int y :: .int x :: st) := fun H locs ls hP hS hl hm => lv_ishl C.1 C.2.1 hd (kk H locs ls hP hS hl hm)
theorem r_ishr (C : cx g p s m args meth c own cc) {x y : Int32} (hd : decode cc pc = .ok (.ishr, 1)) (kk : WM g p l e R s m args below meth c Q tpl b n v (pc + 1) L (.int (x >>> (y &&& 31)) :: st)) : WM g p l e R s m args below meth c Q tpl b n v pc L (.int y :: .int x :: st) := fun H locs ls hP hS hl hm => lv_ishr C.1 C.2.1 hd (kk H locs ls hP hS hl hm)
/-! fields -/
theorem r_get (C : cx g p s m args meth c own cc) {ref Cn : String} {T : u_T} {N ci index k : Nat} (hin : ∀ w ∈ u_ws Cn T N, w ∈ wsL_law) (hc : vwCl[ci]? = some (Cn, T, N)) (j : Nat) (hj : j < N) (hlink : Cond.fieldLink own index ref (T j).2.1 (T j).2.2.1 ∈ wsL_law) (hsame : (T j).1 = ref) {F : (Nat → Int32) → List Value} {x : Value} (hd : decode cc pc = .ok (.getfield index, 3)) (ht : tpl k = fun f => .inr (ci, F f)) (hk : k < n) (hx : (F (v k))[j]? = some x) (kk : WM g p l e R s m args below meth c Q tpl b n v (pc + 3) L (x :: st)) : WM g p l e R s m args below meth c Q tpl b n v pc L (.ref (b + k) :: st) := fun H locs ls hP hS hl hm =>
  va_get (D := g.1) (ws := mW b n tpl v) C.1 C.2.1 C.2.2.2.1 hin C.2.2.1 C.2.2.2.2.1.1 hP k (mW_getE hk (by rw [ht])) hc j hj (C.2.2.2.1 _ hlink) (fun _ h => by rw [← hsame]; exact h) hx hd (kk H locs ls hP hS hl hm)
theorem r_put (C : cx g p s m args meth c own cc) {ref Cn : String} {T : u_T} {N ci index k : Nat} (hin : ∀ w ∈ u_ws Cn T N, w ∈ wsL_law) (ty0 : Nat → FieldType) (hty : ∀ k, k < N → parseFieldDescriptor (T k).2.2.1 = some (ty0 k)) (hnm : ∀ a, a < N → ∀ b, b < N → a ≠ b → (T a).2.1 ≠ (T b).2.1) (hc : vwCl[ci]? = some (Cn, T, N)) (j : Nat) (hj : j < N) (hlink : Cond.fieldLink own index ref (T j).2.1 (T j).2.2.1 ∈ wsL_law) (hsame : (T j).1 = ref) (hfin : (T j).2.2.2 = false) {F : (Nat → Int32) → List Value} {y : Int32} (hn : narrow (ty0 j) (.int y) = .int y) (hfit : fits (ty0 j) (.int y) = true) (hd : decode cc pc = .ok (.putfield index, 3)) (ht : tpl k = fun f => .inr (ci, F f)) (hk : k < n) (hl0 : j < (F (v k)).length) (hF : ∀ f : Nat → Int32, (F f).set j (.int y) = F (upd f j y)) (kk : WM g p l e R s m args below meth c Q tpl b n (u2 v k j y) (pc + 3) L st) : WM g p l e R s m args below meth c Q tpl b n v pc L (.int y :: .ref (b + k) :: st) := fun H locs ls hP hS hl hm =>
  va_put (D := g.1) (ws := mW b n tpl v) (A := aR b n) C.1 C.2.1 C.2.2.2.1 hin ty0 hty hnm C.2.2.1 C.2.2.2.2.1.1 hP mW_D hS k (mW_getE hk (by rw [ht])) hc j hj (C.2.2.2.1 _ hlink) (fun _ h => by rw [← hsame]; exact h) hfin (hty j hj) hn hfit hl0 hd (fun H1 locs1 hP1 _ hS1 => kk H1 locs1 ls (by rw [mW_set hk (by rw [ht, hF])] at hP1; exact hP1) hS1 hl hm)
theorem nar_b {y : Int32} (h : y = 0 ∨ y = 1) : narrow .boolean (.int y) = .int y := by
  rcases h with rfl | rfl <;> rfl
theorem fit_b {y : Int32} (h : y = 0 ∨ y = 1) : fits .boolean (.int y) = true := by
  rcases h with rfl | rfl <;> rfl
/-! arrays: the index is nI j -/
theorem ix_in {i : Int32} {j sz : Nat} (hi : i = nI j) (hj : j < sz) (hz : sz < 2 ^ 31) : vp_in i sz ∧ i.toNatClampNeg = j := by
  subst hi
  exact ⟨vp_in_nI hj hz, nI_clamp (by omega)⟩
theorem r_iald (C : cx g p s m args meth c own cc) {k sz j : Nat} {i : Int32} (hd : decode cc pc = .ok (.iaload, 1)) (ht : tpl k = fun f => .inl (g.2 0, sz, .inl f)) (hk : k < n) (hi : i = nI j) (hj : j < sz) (hz : Nat.ble sz 1000 = true) (kk : WM g p l e R s m args below meth c Q tpl b n v (pc + 1) L (.int (v k j) :: st)) : WM g p l e R s m args below meth c Q tpl b n v pc L (.int i :: .ref (b + k) :: st) := fun H locs ls hP hS hl hm => by
  have hz := Nat.le_of_ble_eq_true hz
  obtain ⟨h1, h2⟩ := ix_in hi hj (by omega)
  refine va_iald (D := g.1) (ws := mW b n tpl v) (n := sz) (f := v k) C.1 C.2.1 C.2.2.2.2.1.1 hP k 0 (mW_getE hk (by rw [ht])) rfl h1 hd ?_
  rw [h2]
  exact kk H locs ls hP hS hl hm
theorem r_cald (C : cx g p s m args meth c own cc) {k sz j : Nat} {i : Int32} (hd : decode cc pc = .ok (.caload, 1)) (ht : tpl k = fun f => .inl (g.2 1, sz, .inl f)) (hk : k < n) (hi : i = nI j) (hj : j < sz) (hz : Nat.ble sz 1000 = true) (kk : WM g p l e R s m args below meth c Q tpl b n v (pc + 1) L (.int (v k j) :: st)) : WM g p l e R s m args below meth c Q tpl b n v pc L (.int i :: .ref (b + k) :: st) := fun H locs ls hP hS hl hm => by
  have hz := Nat.le_of_ble_eq_true hz
  obtain ⟨h1, h2⟩ := ix_in hi hj (by omega)
  refine va_cald (D := g.1) (ws := mW b n tpl v) (n := sz) (f := v k) C.1 C.2.1 C.2.2.2.2.1.1 hP k 1 (mW_getE hk (by rw [ht])) rfl h1 hd ?_
  rw [h2]
  exact kk H locs ls hP hS hl hm
theorem r_iast (C : cx g p s m args meth c own cc) {k sz j : Nat} {i x : Int32} (hd : decode cc pc = .ok (.iastore, 1)) (ht : tpl k = fun f => .inl (g.2 0, sz, .inl f)) (hk : k < n) (hi : i = nI j) (hj : j < sz) (hz : Nat.ble sz 1000 = true) (kk : WM g p l e R s m args below meth c Q tpl b n (u2 v k j x) (pc + 1) L st) : WM g p l e R s m args below meth c Q tpl b n v pc L (.int x :: .int i :: .ref (b + k) :: st) := fun H locs ls hP hS hl hm => by
  have hz := Nat.le_of_ble_eq_true hz
  obtain ⟨h1, h2⟩ := ix_in hi hj (by omega)
  refine va_iast (D := g.1) (ws := mW b n tpl v) (A := aR b n) (n := sz) (f := v k) C.1 C.2.1 C.2.2.2.2.1.1 hP mW_D hS k 0 (mW_getE hk (by rw [ht])) rfl h1 hd (fun H1 locs1 hP1 _ hS1 => kk H1 locs1 ls ?_ hS1 hl hm)
  rw [h2, mW_set hk (by rw [ht])] at hP1
  exact hP1
theorem r_cast (C : cx g p s m args meth c own cc) {k sz j : Nat} {i x : Int32} (hd : decode cc pc = .ok (.castore, 1)) (ht : tpl k = fun f => .inl (g.2 1, sz, .inl f)) (hk : k < n) (hi : i = nI j) (hj : j < sz) (hz : Nat.ble sz 1000 = true) (kk : WM g p l e R s m args below meth c Q tpl b n (u2 v k j (vp_nar .char x)) (pc + 1) L st) : WM g p l e R s m args below meth c Q tpl b n v pc L (.int x :: .int i :: .ref (b + k) :: st) := fun H locs ls hP hS hl hm => by
  have hz := Nat.le_of_ble_eq_true hz
  obtain ⟨h1, h2⟩ := ix_in hi hj (by omega)
  refine va_cast (D := g.1) (ws := mW b n tpl v) (A := aR b n) (n := sz) (f := v k) C.1 C.2.1 C.2.2.2.2.1.1 hP mW_D hS k 1 (mW_getE hk (by rw [ht])) rfl h1 hd (fun H1 locs1 hP1 _ hS1 => kk H1 locs1 ls ?_ hS1 hl hm)
  rw [h2, mW_set hk (by rw [ht])] at hP1
  exact hP1
theorem r_aald (C : cx g p s m args meth c own cc) {k sz j a : Nat} {t0 : Nat} {Cn : String} {F : Nat → Option Nat} {i : Int32} (hd : decode cc pc = .ok (.aaload, 1)) (ht : tpl k = fun _ => .inl (g.2 t0, sz, .inr (.inr (.inr (.inr F))))) (hty : (tysG g)[t0]? = some (g.2 t0, .object Cn)) (hk : k < n) (hi : i = nI j) (hj : j < sz) (hz : Nat.ble sz 1000 = true) (hf : F j = some a) (kk : WM g p l e R s m args below meth c Q tpl b n v (pc + 1) L (.ref a :: st)) : WM g p l e R s m args below meth c Q tpl b n v pc L (.int i :: .ref (b + k) :: st) := fun H locs ls hP hS hl hm => by
  have hz := Nat.le_of_ble_eq_true hz
  obtain ⟨h1, h2⟩ := ix_in hi hj (by omega)
  refine va_aldq (D := g.1) (ws := mW b n tpl v) (n := sz) (f := F) C.1 C.2.1 C.2.2.2.2.1.1 hP k t0 (mW_getE hk (by rw [ht])) hty h1 hd ?_
  rw [h2, hf]
  exact kk H locs ls hP hS hl hm
theorem r_alen (C : cx g p s m args meth c own cc) {k t0 : Nat} {x : (Nat → Int32) → vp_A} {ty : FieldType} {y : Int32} (hd : decode cc pc = .ok (.arraylength, 1)) (ht : tpl k = fun f => .inl (g.2 t0, x f)) (hty : (tysG g)[t0]? = some (g.2 t0, ty)) (hk : k < n) (hy : Int32.ofNat (x (v k)).1 = y) (kk : WM g p l e R s m args below meth c Q tpl b n v (pc + 1) L (.int y :: st)) : WM g p l e R s m args below meth c Q tpl b n v pc L (.ref (b + k) :: st) := fun H locs ls hP hS hl hm =>
  va_alen (D := g.1) (ws := mW b n tpl v) C.1 C.2.1 C.2.2.2.2.1.1 hP k t0 (mW_getE hk (by rw [ht])) hty hy hd (kk H locs ls hP hS hl hm)
/-! ends -/
def CTQ (g : mG) (tpl : mT) (b n : Nat) (post : Option Value → mV → Prop) : Array Value → State → Outcome → State → Prop := fun _ st oc t => (∃ (r : Option Value) (v' : mV), oc = .returned r ∧ post r v' ∧ va_P g.1 vwCl (mW b n tpl v') t.heap) ∧ va_F (aR b n) st t
def CT (g : mG) (l : Launch) (tpl : mT) (b n : Nat) (y : MethodName) (cc : ByteArray) (nL : Nat) (ret : Option FieldType) (rm : Room) (av : List Value) (v : mV) (post : Option Value → mV → Prop) : Prop :=
  Met l y (.code y cc nL ret :: wsL_law) rm (va_Pc av (fun U => va_P g.1 vwCl (mW b n tpl v) U.heap ∧ KK g U)) (CTQ g tpl b n post) 0 0 (aR b n)
def pI (x : Int32) (v1 : mV) : Option Value → mV → Prop := fun r v' => r = some (.int x) ∧ v' = v1
def pV (v1 : mV) : Option Value → mV → Prop := fun r v' => r = none ∧ v' = v1
theorem CT.intro {y : MethodName} {nL : Nat} {ret : Option FieldType} {rm : Room} {av : List Value} {post : Option Value → mV → Prop} (L0 : List (Option Value)) (hy : plainName y.cls = true) (hL : L0.length = nL) (hp : prs 0 L0 = lv_args 0 av) (hn : Nat.ble (lg_sl av).length nL = true)
    (body : ∀ (p : Program) (e : Env) (s : State) (m : MethodId) (below : List Frame) (meth : Method) (c : Code), cx g p s m av.toArray meth c y.cls cc → meth.sig.returnType = ret → WM g p l e rm s m av.toArray below meth c (MQ below (CTQ g tpl b n post) av.toArray s 0 0 (aR b n)) tpl b n v 0 L0 []) : CT g l tpl b n y cc nL ret rm av v post := by
  refine Met.ofW (cc := cc) (maxL := nL) (ret := ret) hy rfl ?_
  intro p e s m args below meth c s₁ B hml hv
  obtain ⟨rfl, hP, hK⟩ := hv
  have hts := atoms_spec (ws := .code y cc nL ret :: wsL_law) B.pre
  have hl := lv_entry av (n := nL) (Nat.le_of_ble_eq_true hn)
  rw [lg_entry_eq]
  generalize (lg_sl av ++ List.replicate (nL - (lg_sl av).length) Slot.unset).toArray = ls at hl ⊢
  exact body p e s m below meth c ⟨B.exec, B.bytes, findClass_of_methodNamed B.named, fun w hw => hts w (List.mem_cons_of_mem _ hw), hK, B.notSynchronized⟩ B.returns s.heap [] ls hP va_S.rf (by unfold lvO; rw [hp, hL]; exact hl) (hml.trans hL.symm)
theorem r_iret (C : cx g p s m args meth c own cc) {post : Option Value → mV → Prop} {x : Int32} (hr : meth.sig.returnType = some .int) (hd : decode cc pc = .ok (.ireturn, 1)) (hq : post (some (.int x)) v) : WM g p l e R s m args below meth c (MQ below (CTQ g tpl b n post) args s 0 0 (aR b n)) tpl b n v pc L [.int x] := fun H locs ls hP hS hl hm =>
  W.iret C.1 C.2.1 hr (fun t ht _ => ⟨⟨_, v, rfl, hq, by rw [ht]; exact hP⟩, hS.F ht⟩) hS.2.2 hd C.2.2.2.2.2
theorem r_zret (C : cx g p s m args meth c own cc) {post : Option Value → mV → Prop} {x : Int32} {ty : FieldType} (hr : meth.sig.returnType = some ty) (hn : narrow ty (.int x) = .int x) (hd : decode cc pc = .ok (.ireturn, 1)) (hq : post (some (.int x)) v) : WM g p l e R s m args below meth c (MQ below (CTQ g tpl b n post) args s 0 0 (aR b n)) tpl b n v pc L [.int x] := fun H locs ls hP hS hl hm =>
  W.zret C.1 C.2.1 hr hn (fun t ht _ => ⟨⟨_, v, rfl, hq, by rw [ht]; exact hP⟩, hS.F ht⟩) hS.2.2 hd C.2.2.2.2.2
theorem r_vret (C : cx g p s m args meth c own cc) {post : Option Value → mV → Prop} (hr : meth.sig.returnType = none) (hd : decode cc pc = .ok (.return_, 1)) (hq : post none v) : WM g p l e R s m args below meth c (MQ below (CTQ g tpl b n post) args s 0 0 (aR b n)) tpl b n v pc L [] := fun H locs ls hP hS hl hm =>
  W.vret C.1 C.2.1 hr (fun t ht _ => ⟨⟨_, v, rfl, hq, by rw [ht]; exact hP⟩, hS.F ht⟩) hS.2.2 hd C.2.2.2.2.2
theorem CT.introI {y : MethodName} {nL : Nat} {rm : Room} {av : List Value} {post : Option Value → mV → Prop} (L0 : List (Option Value)) (own : String) (hy : plainName y.cls = true) (ho : y.cls = own) (hL : L0.length = nL) (hp : prs 0 L0 = lv_args 0 av) (hn : Nat.ble (lg_sl av).length nL = true)
    (body : ∀ (p : Program) (e : Env) (s : State) (m : MethodId) (args : Array Value) (below : List Frame) (meth : Method) (c : Code) (Q : State → Prop), cx g p s m args meth c own cc → (∀ (pc : Nat) (L : List (Option Value)) (x : Int32) (v' : mV), decode cc pc = .ok (.ireturn, 1) → post (some (.int x)) v' → WM g p l e rm s m args below meth c Q tpl b n v' pc L [.int x]) → WM g p l e rm s m args below meth c Q tpl b n v 0 L0 []) : CT g l tpl b n y cc nL (some .int) rm av v post := by
  subst ho
  exact CT.intro L0 hy hL hp hn (fun p e s m below meth c C hr => body p e s m av.toArray below meth c _ C (fun pc L x v' hd hq => r_iret C hr hd hq))
theorem CT.introZ {y : MethodName} {nL : Nat} {ty : FieldType} {rm : Room} {av : List Value} {post : Option Value → mV → Prop} (L0 : List (Option Value)) (own : String) (hy : plainName y.cls = true) (ho : y.cls = own) (hL : L0.length = nL) (hp : prs 0 L0 = lv_args 0 av) (hn : Nat.ble (lg_sl av).length nL = true)
    (body : ∀ (p : Program) (e : Env) (s : State) (m : MethodId) (args : Array Value) (below : List Frame) (meth : Method) (c : Code) (Q : State → Prop), cx g p s m args meth c own cc → (∀ (pc : Nat) (L : List (Option Value)) (x : Int32) (v' : mV), narrow ty (.int x) = .int x → decode cc pc = .ok (.ireturn, 1) → post (some (.int x)) v' → WM g p l e rm s m args below meth c Q tpl b n v' pc L [.int x]) → WM g p l e rm s m args below meth c Q tpl b n v 0 L0 []) : CT g l tpl b n y cc nL (some ty) rm av v post := by
  subst ho
  exact CT.intro L0 hy hL hp hn (fun p e s m below meth c C hr => body p e s m av.toArray below meth c _ C (fun pc L x v' hx hd hq => r_zret C hr hx hd hq))
theorem CT.introV {y : MethodName} {nL : Nat} {rm : Room} {av : List Value} {post : Option Value → mV → Prop} (L0 : List (Option Value)) (own : String) (hy : plainName y.cls = true) (ho : y.cls = own) (hL : L0.length = nL) (hp : prs 0 L0 = lv_args 0 av) (hn : Nat.ble (lg_sl av).length nL = true)
    (body : ∀ (p : Program) (e : Env) (s : State) (m : MethodId) (args : Array Value) (below : List Frame) (meth : Method) (c : Code) (Q : State → Prop), cx g p s m args meth c own cc → (∀ (pc : Nat) (L : List (Option Value)) (v' : mV), decode cc pc = .ok (.return_, 1) → post none v' → WM g p l e rm s m args below meth c Q tpl b n v' pc L []) → WM g p l e rm s m args below meth c Q tpl b n v 0 L0 []) : CT g l tpl b n y cc nL none rm av v post := by
  subst ho
  exact CT.intro L0 hy hL hp hn (fun p e s m below meth c C hr => body p e s m av.toArray below meth c _ C (fun pc L v' hd hq => r_vret C hr hd hq))
/-! calls -/
theorem ws_good : ∀ w ∈ wsL_law, (w.onTables && w.keeps) = true ∨ ∃ ty, w = .arrayClass ty := fun w h => good_of_word (List.all_eq_true.mp (show wsL_law.all goodWord = true by decide +kernel) w h)
theorem ws_gd {ws : List Cond} (h : ∀ w ∈ ws, w ∈ wsL_law) : GoodIn wsL_law ws := fun w hw => ⟨h w hw, ws_good w (h w hw)⟩
theorem blindG {tpl : mT} {b n : Nat} {v : mV} {av : List Value} : FrameBlind (va_Pc av (fun U => va_P g.1 vwCl (mW b n tpl v) U.heap ∧ KK g U)) := fun a U gg mk q => ⟨q.1, q.2.1, KK_same (u := U) (U := U.calling gg mk a) rfl q.2.2⟩
theorem W.callG {tpl : mT} {b n : Nat} {post : Option Value → mV → Prop} {H : Heap} {locs : List Loc} {ls : Array Slot} {st0 rest : List Value} {a : Array Value} {H0 : Heap} (hr : va_Run p l e R s m args below meth c H locs 0 0 0 0 (F0 m pc ls st0) rest (CTQ g tpl b n post a) (aR b n)) (hS : va_S (aR b n) H0 H locs)
    (kk : ∀ (r : Option Value) (v' : mV) (H1 : Heap) (locs1 : List Loc), post r v' → va_P g.1 vwCl (mW b n tpl v') H1 → va_S (aR b n) H0 H1 locs1 → W p l e R s m args below meth c H1 locs1 0 0 Q (F0 m (pc + 3) ls (r.toList ++ rest))) : W p l e R s m args below meth c H locs 0 0 Q (F0 m pc ls st0) := by
  intro T hT X
  obtain ⟨w, st₀, t, T', L, h0, X', hL, e1, e2, ⟨⟨r, v', hv, hp, hP1⟩, hz, hk⟩, stp⟩ := hr T hT X
  cases hv
  rw [h0] at hz hk
  obtain ⟨t2, a1, b1⟩ := kk w v' T'.heap (locs ++ L) hp (by rw [e1]; exact hP1)
    ⟨Nat.le_trans hS.1 (by rw [e1]; exact hz), fun q h1 h2 => by rw [e1, hk q (Nat.lt_of_lt_of_le h1 hS.1) h2]; exact hS.2.1 q h1 h2, fun q hq => by
      rcases List.mem_append.mp hq with h | h
      · exact hS.2.2 q h
      · exact hL q h⟩ T' rfl X'
  exact ⟨t2, stp t2 a1, b1⟩
theorem r_callV (C : cx g p s m args meth c own cc) {y : MethodName} {cc' : ByteArray} {nL' : Nat} {ret' : Option FieldType} {rm : Room} {as : List Value} {post : Option Value → mV → Prop} {index ci k nas : Nat} {Tc : u_T} {N : Nat} {F : (Nat → Int32) → List Value} {st0 : List Value}
    (h1 : Cond.methodLink own index y ∈ wsL_law) (h2 : Cond.instanceMethod y ∈ wsL_law) (h3 : Cond.selects y.cls y y ∈ wsL_law) (h4 : Cond.initialized y.cls ∈ wsL_law) (h5 : Cond.code y cc' nL' ret' ∈ wsL_law) (hy : y.cls ≠ "java/lang/invoke/MethodHandle" ∧ y.cls ≠ "java/lang/invoke/VarHandle") (hpd : (parseMethodDescriptor y.desc).map (fun d => d.parameters.length) = some nas) (hc : vwCl[ci]? = some (y.cls, Tc, N)) (hr0 : rm.cells = 0 ∧ rm.slots = 0)
    (hd : decode cc pc = .ok (.invokevirtual index, 3)) (hM : CT g l tpl b n y cc' nL' ret' rm (.ref (b + k) :: as) v post) (ht : tpl k = fun f => .inr (ci, F f)) (hk : k < n) (hR1 : Nat.ble (rm.frames + 1) R.frames = true) (hR2 : Nat.ble (8 + (nL' + 11) + rm.locals) R.locals = true) (has : as.length = nas) (hst0 : st0 = as.reverse ++ .ref (b + k) :: st) (hst : Nat.ble ((st.map fun v => v.category).sum) 8 = true)
    (kk : ∀ (r : Option Value) (v' : mV), post r v' → WM g p l e R s m args below meth c Q tpl b n v' (pc + 3) L (r.toList ++ st)) : WM g p l e R s m args below meth c Q tpl b n v pc L st0 := fun H locs ls hP hS hl hm => by
  have hG : GoodIn wsL_law (wsV own index y.cls y (.code y cc' nL' ret' :: wsL_law)) := ws_gd (fun w hw => by
    simp only [wsV, List.cons_append, List.nil_append, List.mem_cons] at hw
    rcases hw with rfl | rfl | rfl | rfl | rfl | h
    · exact h1
    · exact h2
    · exact h3
    · exact h4
    · exact h5
    · exact h)
  exact W.callG (va_runV (As := as) (rest := st) (C := y.cls) ⟨C.1, C.2.1, hm.trans hl.1.symm, C.2.2.1, C.2.2.2.1⟩ hM (cwV nas C.2.2.2.1 hG rfl hr0.1 hr0.2 ⟨rfl, hy.1, hy.2, hpd⟩ ⟨Nat.le_of_ble_eq_true hR1, Nat.le_of_ble_eq_true hR2⟩)
    ⟨blindG, va_recv C.2.2.2.2.1.1 hP hc (mW_getE hk (by rw [ht])), fun U hU hW => ⟨rfl, by rw [hU]; exact hP, KK_all C.2.2.2.2.1 hW⟩⟩ rfl has rfl hst0 (lv_room (Nat.le_of_ble_eq_true hst)) hd ⟨Nat.zero_le _, Nat.zero_le _⟩) hS (fun r v' H1 locs1 hq hP1 hS1 => kk r v' hq H1 locs1 ls hP1 hS1 hl hm)
theorem r_callS (C : cx g p s m args meth c own cc) {y : MethodName} {cc' : ByteArray} {nL' : Nat} {ret' : Option FieldType} {rm : Room} {as : List Value} {post : Option Value → mV → Prop} {index nas : Nat} {st0 : List Value}
    (h1 : Cond.methodLink own index y ∈ wsL_law) (h2 : Cond.static y ∈ wsL_law) (h4 : Cond.initialized y.cls ∈ wsL_law) (h5 : Cond.code y cc' nL' ret' ∈ wsL_law) (hy : y.cls ≠ "java/lang/invoke/MethodHandle" ∧ y.cls ≠ "java/lang/invoke/VarHandle") (hpd : (parseMethodDescriptor y.desc).map (fun d => d.parameters.length) = some nas) (hr0 : rm.cells = 0 ∧ rm.slots = 0)
    (hd : decode cc pc = .ok (.invokestatic index, 3)) (hM : CT g l tpl b n y cc' nL' ret' rm as v post) (hR1 : Nat.ble (rm.frames + 1) R.frames = true) (hR2 : Nat.ble (8 + (nL' + 11) + rm.locals) R.locals = true) (has : as.length = nas) (hst0 : st0 = as.reverse ++ st) (hst : Nat.ble ((st.map fun v => v.category).sum) 8 = true)
    (kk : ∀ (r : Option Value) (v' : mV), post r v' → WM g p l e R s m args below meth c Q tpl b n v' (pc + 3) L (r.toList ++ st)) : WM g p l e R s m args below meth c Q tpl b n v pc L st0 := fun H locs ls hP hS hl hm => by
  have hG : GoodIn wsL_law (.code y cc' nL' ret' :: wsL_law) := ws_gd (fun w hw => by
    rcases List.mem_cons.mp hw with rfl | h
    · exact h5
    · exact h)
  exact W.callG (va_runS (As := as) (rest := st) ⟨C.1, C.2.1, hm.trans hl.1.symm, C.2.2.1, C.2.2.2.1⟩ hM ⟨callB_of nas C.2.2.2.1 hG rfl hr0.1 hr0.2 (C.2.2.2.1 _ h4) (C.2.2.2.1 _ h1) ⟨hy.1, hy.2, hpd⟩ ⟨Nat.le_of_ble_eq_true hR1, Nat.le_of_ble_eq_true hR2⟩, C.2.2.2.1 _ h2⟩
    ⟨blindG, fun U hU hW => ⟨rfl, by rw [hU]; exact hP, KK_all C.2.2.2.2.1 hW⟩⟩ rfl has rfl hst0 (lv_room (Nat.le_of_ble_eq_true hst)) hd ⟨Nat.zero_le _, Nat.zero_le _⟩) hS (fun r v' H1 locs1 hq hP1 hS1 => kk r v' hq H1 locs1 ls hP1 hS1 hl hm)
theorem r_callSN (C : cx g p s m args meth c own cc) {y : MethodName} {cc' : ByteArray} {nL' : Nat} {ret' : Option FieldType} {rm : Room} {as : List Value} {post : Option Value → mV → Prop} {index nas : Nat} {st0 : List Value} {host : String}
    (h1 : va_Nw (.methodLinkNest own index y host) s) (h2 : Cond.static y ∈ wsL_law) (h4 : Cond.initialized y.cls ∈ wsL_law) (h5 : Cond.code y cc' nL' ret' ∈ wsL_law) (hy : y.cls ≠ "java/lang/invoke/MethodHandle" ∧ y.cls ≠ "java/lang/invoke/VarHandle") (hpd : (parseMethodDescriptor y.desc).map (fun d => d.parameters.length) = some nas) (hr0 : rm.cells = 0 ∧ rm.slots = 0)
    (hd : decode cc pc = .ok (.invokestatic index, 3)) (hM : CT g l tpl b n y cc' nL' ret' rm as v post) (hR1 : Nat.ble (rm.frames + 1) R.frames = true) (hR2 : Nat.ble (8 + (nL' + 11) + rm.locals) R.locals = true) (has : as.length = nas) (hst0 : st0 = as.reverse ++ st) (hst : Nat.ble ((st.map fun v => v.category).sum) 8 = true)
    (kk : ∀ (r : Option Value) (v' : mV), post r v' → WM g p l e R s m args below meth c Q tpl b n v' (pc + 3) L (r.toList ++ st)) : WM g p l e R s m args below meth c Q tpl b n v pc L st0 := fun H locs ls hP hS hl hm => by
  have hG : GoodIn wsL_law (.code y cc' nL' ret' :: wsL_law) := ws_gd (fun w hw => by
    rcases List.mem_cons.mp hw with rfl | h
    · exact h5
    · exact h)
  exact W.callG (va_runSN (As := as) (rest := st) ⟨C.1, C.2.1, hm.trans hl.1.symm, C.2.2.1, C.2.2.2.1⟩ hM ⟨va_cnB nas C.2.2.2.1 hG rfl hr0.1 hr0.2 h1 (C.2.2.2.1 _ h4) ⟨hy.1, hy.2, hpd⟩ ⟨Nat.le_of_ble_eq_true hR1, Nat.le_of_ble_eq_true hR2⟩, C.2.2.2.1 _ h2, trivial⟩
    ⟨blindG, fun U hU hW => ⟨rfl, by rw [hU]; exact hP, KK_all C.2.2.2.2.1 hW⟩⟩ rfl has rfl hst0 (lv_room (Nat.le_of_ble_eq_true hst)) hd ⟨Nat.zero_le _, Nat.zero_le _⟩) hS (fun r v' H1 locs1 hq hP1 hS1 => kk r v' hq H1 locs1 ls hP1 hS1 hl hm)
end ROWS
