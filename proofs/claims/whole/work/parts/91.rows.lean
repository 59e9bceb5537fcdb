/-! ===== the law's walk: two objects, the class's from b on, the reference's behind it ===== -/
def aL (s : State) : Nat → Prop := fun q => s.heap.size ≤ q
def cL (g : mG) (p : Program) (s : State) (m : MethodId) (c : Code) (b0 L0 b : Nat) (xs : Nat → Int32) : Prop := p.tables.exec = Jvm.exec ∧ c.code = cL_law ∧ s.vm.findClass RL = some m.cls ∧ (∀ w ∈ wsL_law, w.before #[Value.ref b0] s = true) ∧ KK g s ∧ va_X b0 L0 xs s s.heap ∧ b0 < s.heap.size ∧ c.maxLocals = 4 ∧ s.heap.size ≤ b
def Mm (g : mG) (b : Nat) (v w : mV) (H : Heap) : Prop := va_P g.1 vwCl (mW b 328 (tplC g b) v) H ∧ va_P g.1 vwCl (mW (b + 328) 7 (tplM g (b + 328)) w) H
def WL (g : mG) (p : Program) (l : Launch) (e : Env) (s : State) (m : MethodId) (below : List Frame) (meth : Method) (c : Code) (Q : State → Prop) (b0 b : Nat) (v w : mV) (pc : Nat) (L : List (Option Value)) (st : List Value) : Prop :=
  ∀ (H : Heap) (locs : List Loc) (ls : Array Slot), Mm g b v w H → va_S (aL s) s.heap H locs → lvO ls L → L.length = 4 → W p l e room_1 s m #[Value.ref b0] below meth c H locs 600000 7302250 Q (F0 m pc ls st)
section ROWSL
variable {g : mG} {p : Program} {l : Launch} {e : Env} {s : State} {m : MethodId} {below : List Frame} {meth : Method} {c : Code} {Q : State → Prop} {b0 L0 b : Nat} {xs : Nat → Int32} {v w : mV} {pc : Nat} {L : List (Option Value)} {st : List Value}
theorem l_aload_n (C : cL g p s m c b0 L0 b xs) {k : Fin 4} {x : Nat} (hd : decode cL_law pc = .ok (.aload_n k, 1)) (hx : L[(k : Nat)]? = some (some (.ref x))) (kk : WL g p l e s m below meth c Q b0 b v w (pc + 1) L (.ref x :: st)) : WL g p l e s m below meth c Q b0 b v w pc L st := fun H locs ls hP hS hl hm => lv_aload_n C.1 C.2.1 hd rfl (lvO_at hl hx) (kk H locs ls hP hS hl hm)
theorem l_iload_n (C : cL g p s m c b0 L0 b xs) {k : Fin 4} {x : Int32} (hd : decode cL_law pc = .ok (.iload_n k, 1)) (hx : L[(k : Nat)]? = some (some (.int x))) (kk : WL g p l e s m below meth c Q b0 b v w (pc + 1) L (.int x :: st)) : WL g p l e s m below meth c Q b0 b v w pc L st := fun H locs ls hP hS hl hm => lv_iload_n C.1 C.2.1 hd rfl (lvO_at hl hx) (kk H locs ls hP hS hl hm)
theorem l_iconst (C : cL g p s m c b0 L0 b xs) {i : Int} {x : Int32} (hd : decode cL_law pc = .ok (.iconst i, 1)) (hx : Int32.ofInt i = x) (kk : WL g p l e s m below meth c Q b0 b v w (pc + 1) L (.int x :: st)) : WL g p l e s m below meth c Q b0 b v w pc L st := fun H locs ls hP hS hl hm => lv_iconst C.1 C.2.1 hd hx (kk H locs ls hP hS hl hm)
theorem l_bipush (C : cL g p s m c b0 L0 b xs) {i : Int} {x : Int32} (hd : decode cL_law pc = .ok (.bipush i, 2)) (hx : (Int8.ofInt i).toInt32 = x) (kk : WL g p l e s m below meth c Q b0 b v w (pc + 2) L (.int x :: st)) : WL g p l e s m below meth c Q b0 b v w pc L st := fun H locs ls hP hS hl hm => lv_bipush C.1 C.2.1 hd hx (kk H locs ls hP hS hl hm)
theorem l_iadd (C : cL g p s m c b0 L0 b xs) {x y : Int32} (hd : decode cL_law pc = .ok (.iadd, 1)) (kk : WL g p l e s m below meth c Q b0 b v w (pc + 1) L (.int (x + y) :: st)) : WL g p l e s m below meth c Q b0 b v w pc L (.int y :: .int x :: st) := fun H locs ls hP hS hl hm => lv_iadd C.1 C.2.1 hd (kk H locs ls hP hS hl hm)
theorem l_isub (C : cL g p s m c b0 L0 b xs) {x y : Int32} (hd : decode cL_law pc = .ok (.isub, 1)) (kk : WL g p l e s m below meth c Q b0 b v w (pc + 1) L (.int (x - y) :: st)) : WL g p l e s m below meth c Q b0 b v w pc L (.int y :: .int x :: st) := fun H locs ls hP hS hl hm => lv_isub C.1 C.2.1 hd (kk H locs ls hP hS hl hm)
theorem l_iand (C : cL g p s m c b0 L0 b xs) {x y : Int32} (hd : decode cL_law pc = .ok (.iand, 1)) (kk : WL g p l e s m below meth c Q b0 b v w (pc + 1) L (.int (x &&& y) :: st)) : WL g p l e s m below meth c Q b0 b v w pc L (.int y :: .int x :: st) := fun H locs ls hP hS hl hm => lv_iand C.1 C.2.1 hd (kk H locs ls hP hS hl hm)
theorem l_goto (C : cL g p s m c b0 L0 b xs) {off : Int} {tgt : Nat} (hd : decode cL_law pc = .ok (.goto off, 3)) (ht : (pc : Int) + off = (tgt : Int)) (kk : WL g p l e s m below meth c Q b0 b v w tgt L st) : WL g p l e s m below meth c Q b0 b v w pc L st := fun H locs ls hP hS hl hm => lv_goto C.1 C.2.1 hd ht (kk H locs ls hP hS hl hm)
theorem l_iinc (C : cL g p s m c b0 L0 b xs) {k : Nat} {i : Int} {x y : Int32} (hd : decode cL_law pc = .ok (.iinc k i, 3)) (hx : L[k]? = some (some (.int x))) (hy : x + Int32.ofInt i = y) (h2 : c2 L k = true) (kk : WL g p l e s m below meth c Q b0 b v w (pc + 3) (L.set k (some (.int y))) st) : WL g p l e s m below meth c Q b0 b v w pc L st := fun H locs ls hP hS hl hm => by
  obtain ⟨q, hq⟩ := prs_at hx
  exact lv_iinc C.1 C.2.1 hd hl hq hy (List.getElem?_eq_some_iff.mp hx).1 rfl (fun ls' hl' => kk H locs ls' hP hS (lvO_st h2 hl') (by rw [len_set]; exact hm))
theorem l_icmp_gt (C : cL g p s m c b0 L0 b xs) {x y : Int32} {off : Int} {tgt : Nat} (hd : decode cL_law pc = .ok (.if_icmp .gt off, 3)) (ht : (pc : Int) + off = (tgt : Int)) (kt : y < x → WL g p l e s m below meth c Q b0 b v w tgt L st) (kf : ¬ y < x → WL g p l e s m below meth c Q b0 b v w (pc + 3) L st) : WL g p l e s m below meth c Q b0 b v w pc L (.int y :: .int x :: st) := fun H locs ls hP hS hl hm => lv_icmp_gt C.1 C.2.1 hd ht (fun h => kt ((id) h) H locs ls hP hS hl hm) (fun h => kf ((id) h) H locs ls hP hS hl hm)
/-- the two answers are one -/
theorem l_same (C : cL g p s m c b0 L0 b xs) {x y : Int32} {off : Int} {tgt : Nat} (hd : decode cL_law pc = .ok (.if_icmp .eq off, 3)) (ht : (pc : Int) + off = (tgt : Int)) (hxy : x = y) (kt : WL g p l e s m below meth c Q b0 b v w tgt L st) : WL g p l e s m below meth c Q b0 b v w pc L (.int y :: .int x :: st) := fun H locs ls hP hS hl hm => lv_icmp_eq C.1 C.2.1 hd ht (fun _ => kt H locs ls hP hS hl hm) (fun h => absurd hxy h)
theorem l_tsw (C : cL g p s m c b0 L0 b xs) {dflt lo hi : Int} {offs : Array Int} {len : Nat} {x y : Int32} {off : Int} {tgt : Nat} (hd : decode cL_law pc = .ok (.tableswitch dflt lo hi offs, len)) (hx : x = y) (ho : (decide (¬ y.toInt < lo) && decide (¬ hi < y.toInt) && (offs[(y.toInt - lo).toNat]? == some off)) = true) (ht : (pc : Int) + off = (tgt : Int)) (kk : WL g p l e s m below meth c Q b0 b v w tgt L st) : WL g p l e s m below meth c Q b0 b v w pc L (.int x :: st) := fun H locs ls hP hS hl hm => by
  simp only [Bool.and_eq_true, decide_eq_true_eq] at ho
  subst hx
  exact lv_tableIn C.1 C.2.1 hd ho.1.1 ho.1.2 (eq_of_beq ho.2) ht (kk H locs ls hP hS hl hm)
theorem l_tswd (C : cL g p s m c b0 L0 b xs) {dflt lo0 hi : Int} {lo cnt : Nat} {offs : Array Int} {len : Nat} {x : Int32} {tgt : Nat} (hd : decode cL_law pc = .ok (.tableswitch dflt lo0 hi offs, len)) (hx : ∀ j : Nat, j < cnt → ¬ x = nI (lo + j)) (ho : (decide (lo0 = (lo : Int)) && decide (hi = (lo : Int) + (cnt : Int) - 1) && decide (lo + cnt < 2147483648)) = true) (ht : (pc : Int) + dflt = (tgt : Int)) (kk : WL g p l e s m below meth c Q b0 b v w tgt L st) : WL g p l e s m below meth c Q b0 b v w pc L (.int x :: st) := fun H locs ls hP hS hl hm => by
  simp only [Bool.and_eq_true, decide_eq_true_eq] at ho
  obtain ⟨⟨rfl, rfl⟩, hz⟩ := ho
  exact lv_tableOut C.1 C.2.1 hd (tsw_out hx hz) ht (kk H locs ls hP hS hl hm)
theorem l_sld (C : cL g p s m c b0 L0 b xs) (hL : L0 ≤ 2048) {i : Int32} {j : Nat} (hd : decode cL_law pc = .ok (.iaload, 1)) (hi : i = nI j) (hj : j < L0) (kk : WL g p l e s m below meth c Q b0 b v w (pc + 1) L (.int (xs j) :: st)) : WL g p l e s m below meth c Q b0 b v w pc L (.int i :: .ref b0 :: st) := fun H locs ls hP hS hl hm => by
  obtain ⟨h1, h2⟩ := ix_in hi hj (by omega)
  refine va_sld C.1 C.2.1 C.2.2.2.2.2.1 C.2.2.2.2.2.2.1 (Nat.not_le.mpr C.2.2.2.2.2.2.1) hS h1 hd ?_
  rw [h2]
  exact kk H locs ls hP hS hl hm
theorem l_slen (C : cL g p s m c b0 L0 b xs) (hd : decode cL_law pc = .ok (.arraylength, 1)) (kk : WL g p l e s m below meth c Q b0 b v w (pc + 1) L (.int (nI L0) :: st)) : WL g p l e s m below meth c Q b0 b v w pc L (.ref b0 :: st) := fun H locs ls hP hS hl hm =>
  va_slen C.1 C.2.1 C.2.2.2.2.2.1 C.2.2.2.2.2.2.1 (Nat.not_le.mpr C.2.2.2.2.2.2.1) hS hd (kk H locs ls hP hS hl hm)
theorem W.callGL {tpl : mT} {bb n kc ks : Nat} {R : Room} {args : Array Value} {post : Option Value → mV → Prop} {A : Nat → Prop} {H : Heap} {locs : List Loc} {ls : Array Slot} {st0 rest : List Value} {a : Array Value} {H0 : Heap} (hr : va_Run p l e R s m args below meth c H locs kc ks 0 0 (F0 m pc ls st0) rest (CTQ g tpl bb n post a) (aR bb n)) (hS : va_S A H0 H locs) (hA : ∀ q, aR bb n q → A q)
    (kk : ∀ (r : Option Value) (v' : mV) (H1 : Heap) (locs1 : List Loc), post r v' → va_P g.1 vwCl (mW bb n tpl v') H1 → (∀ q, q < H.size → ¬ aR bb n q → H1[q]? = H[q]?) → va_S A H0 H1 locs1 → W p l e R s m args below meth c H1 locs1 kc ks Q (F0 m (pc + 3) ls (r.toList ++ rest))) : W p l e R s m args below meth c H locs kc ks Q (F0 m pc ls st0) := by
  intro T hT X
  obtain ⟨x, st₀, t, T', L, h0, X', hL, e1, e2, ⟨⟨r, v', hv, hp, hP1⟩, hz, hk⟩, stp⟩ := hr T hT X
  cases hv
  rw [h0] at hz hk
  obtain ⟨t2, a1, b1⟩ := kk x v' T'.heap (locs ++ L) hp (by rw [e1]; exact hP1) (fun q h1 h2 => by rw [e1]; exact hk q h1 h2)
    ⟨Nat.le_trans hS.1 (by rw [e1]; exact hz), fun q h1 h2 => by rw [e1, hk q (Nat.lt_of_lt_of_le h1 hS.1) (fun z => h2 (hA q z))]; exact hS.2.1 q h1 h2, fun q hq => by
      rcases List.mem_append.mp hq with h | h
      · exact hS.2.2 q h
      · exact hA _ (hL q h)⟩ T' rfl X'
  exact ⟨t2, stp t2 a1, b1⟩
theorem mW_keep {bb n : Nat} {tpl : mT} {v : mV} {H H1 : Heap} (hP : va_P g.1 vwCl (mW bb n tpl v) H) (hk : ∀ q, bb ≤ q → q < bb + n → q < H.size → H1[q]? = H[q]?) : va_P g.1 vwCl (mW bb n tpl v) H1 := hP.kept (fun k x hx => by
  have hlt := (hP k x hx).lt
  obtain ⟨h1, rfl⟩ := mW_of hx
  exact hk _ (Nat.le_add_right _ _) (Nat.add_lt_add_left h1 _) hlt)
theorem l_callC (C : cL g p s m c b0 L0 b xs) {y : MethodName} {cc' : ByteArray} {nL' : Nat} {ret' : Option FieldType} {rm : Room} {as : List Value} {r : Int32} {v1 : mV} {index nas : Nat} {st0 : List Value}
    (h1 : Cond.methodLink RL index y ∈ wsL_law) (h2 : Cond.instanceMethod y ∈ wsL_law) (h3 : Cond.selects y.cls y y ∈ wsL_law) (h4 : Cond.initialized y.cls ∈ wsL_law) (h5 : Cond.code y cc' nL' ret' ∈ wsL_law) (hy : y.cls ≠ "java/lang/invoke/MethodHandle" ∧ y.cls ≠ "java/lang/invoke/VarHandle") (hpd : (parseMethodDescriptor y.desc).map (fun d => d.parameters.length) = some nas) (hc : vwCl[10]? = some (y.cls, TX10, 4)) (hr0 : rm.cells = 0 ∧ rm.slots = 0)
    (hd : decode cL_law pc = .ok (.invokevirtual index, 3)) (hM : CT g l (tplC g b) b 328 y cc' nL' ret' rm (.ref (b + 0) :: as) v (pI r v1)) (hR1 : Nat.ble (rm.frames + 1) 13 = true) (hR2 : Nat.ble (8 + (nL' + 11) + rm.locals) 506 = true) (has : as.length = nas) (hst0 : st0 = as.reverse ++ .ref (b + 0) :: st) (hst : Nat.ble ((st.map fun v => v.category).sum) 8 = true)
    (kk : WL g p l e s m below meth c Q b0 b v1 w (pc + 3) L (.int r :: st)) : WL g p l e s m below meth c Q b0 b v w pc L st0 := fun H locs ls hP hS hl hm => by
  have hG : GoodIn wsL_law (wsV RL index y.cls y (.code y cc' nL' ret' :: wsL_law)) := ws_gd (fun w hw => by
    simp only [wsV, List.cons_append, List.nil_append, List.mem_cons] at hw
    rcases hw with rfl | rfl | rfl | rfl | rfl | h
    · exact h1
    · exact h2
    · exact h3
    · exact h4
    · exact h5
    · exact h)
  have hK := C.2.2.2.2.1
  exact W.callGL (va_runV (As := as) (rest := st) (C := y.cls) ⟨C.1, C.2.1, (C.2.2.2.2.2.2.2.1.trans hm.symm).trans hl.1.symm, C.2.2.1, C.2.2.2.1⟩ hM (cwV nas C.2.2.2.1 hG rfl hr0.1 hr0.2 ⟨rfl, hy.1, hy.2, hpd⟩ ⟨Nat.le_of_ble_eq_true hR1, Nat.le_of_ble_eq_true hR2⟩)
    ⟨blindG, va_recv hK.1 hP.1 hc (mW_getE (k := 0) (by omega) (show tplC g b 0 (v 0) = .inr (10, [.ref (b + 1), .ref (b + 47), .ref (b + 93), .ref (b + 325)]) from rfl)), fun U hU hW => ⟨rfl, by rw [hU]; exact hP.1, KK_all hK hW⟩⟩ rfl has rfl hst0 (lv_room (Nat.le_of_ble_eq_true hst)) hd ⟨Nat.le_refl _, Nat.le_refl _⟩) hS (fun q hq => Nat.le_trans C.2.2.2.2.2.2.2.2 hq.1) (fun x v' H1 locs1 hq hP1 hk1 hS1 => by
      obtain ⟨rfl, rfl⟩ := hq
      exact kk H1 locs1 ls ⟨hP1, mW_keep hP.2 (fun q z1 z2 z3 => hk1 q z3 (fun z => by have := z.2; omega))⟩ hS1 hl hm)
theorem l_callM (C : cL g p s m c b0 L0 b xs) {y : MethodName} {cc' : ByteArray} {nL' : Nat} {ret' : Option FieldType} {rm : Room} {as : List Value} {r : Int32} {w1 : mV} {index nas : Nat} {st0 : List Value}
    (h1 : Cond.methodLink RL index y ∈ wsL_law) (h2 : Cond.instanceMethod y ∈ wsL_law) (h3 : Cond.selects y.cls y y ∈ wsL_law) (h4 : Cond.initialized y.cls ∈ wsL_law) (h5 : Cond.code y cc' nL' ret' ∈ wsL_law) (hy : y.cls ≠ "java/lang/invoke/MethodHandle" ∧ y.cls ≠ "java/lang/invoke/VarHandle") (hpd : (parseMethodDescriptor y.desc).map (fun d => d.parameters.length) = some nas) (hc : vwCl[11]? = some (y.cls, TX11, 11)) (hr0 : rm.cells = 0 ∧ rm.slots = 0)
    (hd : decode cL_law pc = .ok (.invokevirtual index, 3)) (hM : CT g l (tplM g (b + 328)) (b + 328) 7 y cc' nL' ret' rm (.ref (b + 328 + 0) :: as) w (pI r w1)) (hR1 : Nat.ble (rm.frames + 1) 13 = true) (hR2 : Nat.ble (8 + (nL' + 11) + rm.locals) 506 = true) (has : as.length = nas) (hst0 : st0 = as.reverse ++ .ref (b + 328 + 0) :: st) (hst : Nat.ble ((st.map fun v => v.category).sum) 8 = true)
    (kk : WL g p l e s m below meth c Q b0 b v w1 (pc + 3) L (.int r :: st)) : WL g p l e s m below meth c Q b0 b v w pc L st0 := fun H locs ls hP hS hl hm => by
  have hG : GoodIn wsL_law (wsV RL index y.cls y (.code y cc' nL' ret' :: wsL_law)) := ws_gd (fun w hw => by
    simp only [wsV, List.cons_append, List.nil_append, List.mem_cons] at hw
    rcases hw with rfl | rfl | rfl | rfl | rfl | h
    · exact h1
    · exact h2
    · exact h3
    · exact h4
    · exact h5
    · exact h)
  have hK := C.2.2.2.2.1
  exact W.callGL (va_runV (As := as) (rest := st) (C := y.cls) ⟨C.1, C.2.1, (C.2.2.2.2.2.2.2.1.trans hm.symm).trans hl.1.symm, C.2.2.1, C.2.2.2.1⟩ hM (cwV nas C.2.2.2.1 hG rfl hr0.1 hr0.2 ⟨rfl, hy.1, hy.2, hpd⟩ ⟨Nat.le_of_ble_eq_true hR1, Nat.le_of_ble_eq_true hR2⟩)
    ⟨blindG, va_recv hK.1 hP.2 hc (mW_getE (k := 0) (by omega) (show tplM g (b + 328) 0 (w 0) = tModel (b + 328) (w 0) from rfl)), fun U hU hW => ⟨rfl, by rw [hU]; exact hP.2, KK_all hK hW⟩⟩ rfl has rfl hst0 (lv_room (Nat.le_of_ble_eq_true hst)) hd ⟨Nat.le_refl _, Nat.le_refl _⟩) hS (fun q hq => Nat.le_trans C.2.2.2.2.2.2.2.2 (Nat.le_trans (Nat.le_add_right b 328) hq.1)) (fun x w' H1 locs1 hq hP1 hk1 hS1 => by
      obtain ⟨rfl, rfl⟩ := hq
      exact kk H1 locs1 ls ⟨mW_keep hP.1 (fun q z1 z2 z3 => hk1 q z3 (fun z => by have := z.1; omega)), hP1⟩ hS1 hl hm)
theorem l_end (C : cL g p s m c b0 L0 b xs) (hr : meth.sig.returnType = ret) (hlocks : meth.locks = false) (hd : decode cL_law pc = .ok (.ireturn, 1)) : WL g p l e s m below meth c (lw_Z below #[Value.ref b0] s) b0 b v w pc L [.int 1] := fun H locs ls hP hS hl hm =>
  va_forget hS.2.2 (W.base (lw_ret (Drawn.sameBut.refl s.drawn lw_cs) C.1 C.2.1 hr hlocks hd))
end ROWSL
