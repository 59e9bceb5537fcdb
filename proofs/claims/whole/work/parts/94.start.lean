/-! ===== the law's start: two objects are made ===== -/
section START
variable {g : mG} {p : Program} {l : Launch} {e : Env} {R : Room} {s : State} {m : MethodId} {args : Array Value} {below : List Frame} {meth : Method} {c : Code} {Q : State → Prop} {kc ks pc : Nat} {st : List Value} {own : String} {cc : ByteArray}
theorem W.callMk2 {b n' mc ms : Nat} {A : Nat → Prop} {E' : Nat → va_E} {H : Heap} {locs : List Loc} {ls : Array Slot} {st0 rest : List Value} {a : Array Value} {H0 : Heap} (hr : va_Run p l e R s m args below meth c H locs kc ks mc ms (F0 m pc ls st0) rest (CAQ g b n' E' a) (aB b)) (hS : va_S A H0 H locs) (hA : ∀ q, aB b q → A q)
    (kk : ∀ (H1 : Heap) (locs1 : List Loc), H1.size = b + n' → va_P g.1 vwCl (mE b n' E') H1 → (∀ q, q < H.size → ¬ aB b q → H1[q]? = H[q]?) → va_S A H0 H1 locs1 → W p l e R s m args below meth c H1 locs1 (kc + mc) (ks + ms) Q (F0 m (pc + 3) ls rest)) : W p l e R s m args below meth c H locs kc ks Q (F0 m pc ls st0) := by
  intro T hT X
  obtain ⟨w, st₀, t, T', L, h0, X', hL, e1, e2, ⟨⟨hv, hz1, hP1⟩, hz, hk⟩, stp⟩ := hr T hT X
  cases hv
  rw [h0] at hz hk
  obtain ⟨t2, a1, b1⟩ := kk T'.heap (locs ++ L) (by rw [e1]; exact hz1) (by rw [e1]; exact hP1) (fun q h1 h2 => by rw [e1]; exact hk q h1 h2)
    ⟨Nat.le_trans hS.1 (by rw [e1]; exact hz), fun q h1 h2 => by rw [e1, hk q (Nat.lt_of_lt_of_le h1 hS.1) (fun z => h2 (hA q z))]; exact hS.2.1 q h1 h2, fun q hq => by
      rcases List.mem_append.mp hq with h | h
      · exact hS.2.2 q h
      · exact hA _ (hL q h)⟩ T' rfl X'
  exact ⟨t2, stp t2 a1, b1⟩
/-- new, dup, invokespecial of a class's constructor: a block of sz cells from b on -/
theorem l_make (C : cx g p s m args meth c own cc) {b index ci N : Nat} {Cn : String} {T : u_T} {fs : List Value} {y : MethodName} {cc' : ByteArray} {nL' sz : Nat} {rm : Room} {idx2 : Nat} {Tm : Nat → va_E} {H : Heap} {locs : List Loc} {ls : Array Slot}
    (hin : ∀ w ∈ u_ws Cn T N, w ∈ wsL_law) (ty : Nat → FieldType) (hty : ∀ k, k < N → parseFieldDescriptor (T k).2.2.1 = some (ty k)) (h1 : Cond.classLink own index Cn ∈ wsL_law) (h2 : Cond.instantiable Cn N ∈ wsL_law) (h3 : Cond.initialized Cn ∈ wsL_law) (hc : vwCl[ci]? = some (Cn, T, N)) (hfs : ∀ j, j < N → defaultValue (ty j) = vp_V fs j)
    (m1 : Cond.methodLink own idx2 y ∈ wsL_law) (m2 : Cond.instanceMethod y ∈ wsL_law) (m4 : Cond.initialized y.cls ∈ wsL_law) (m5 : Cond.code y cc' nL' none ∈ wsL_law) (hy : y.cls ≠ "java/lang/invoke/MethodHandle" ∧ y.cls ≠ "java/lang/invoke/VarHandle") (hpd : (parseMethodDescriptor y.desc).map (fun d => d.parameters.length) = some 0) (hi : y.name = "<init>")
    (d1 : decode cc pc = .ok (.new index, 3)) (d2 : decode cc (pc + 3) = .ok (.dup, 1)) (d3 : decode cc (pc + 3 + 1) = .ok (.invokespecial idx2, 3))
    (hM : CA g l b y cc' nL' rm 0 sz (.inr (ci, fs)) Tm) (hz : H.size = b) (hbs : s.heap.size ≤ b) (hS : va_S (fun q => s.heap.size ≤ q) s.heap H locs) (hml : c.maxLocals = ls.size)
    (hR0 : Nat.ble (kc + 1) R.cells = true) (hR00 : Nat.ble (ks + N) R.slots = true) (hR1 : Nat.ble (rm.frames + 1) R.frames = true) (hR2 : Nat.ble (8 + (nL' + 11) + rm.locals) R.locals = true) (hR3 : Nat.ble (kc + 1 + rm.cells) R.cells = true) (hR4 : Nat.ble (ks + N + rm.slots) R.slots = true)
    (kk : ∀ (H1 : Heap) (locs1 : List Loc), H1.size = b + sz → va_P g.1 vwCl (mE b sz Tm) H1 → (∀ q, q < b → H1[q]? = H[q]?) → va_S (fun q => s.heap.size ≤ q) s.heap H1 locs1 → W p l e R s m args below meth c H1 locs1 (kc + 1 + rm.cells) (ks + N + rm.slots) Q (F0 m (pc + 3 + 1 + 3) ls [.ref (b + 0)])) : W p l e R s m args below meth c H locs kc ks Q (F0 m pc ls []) := by
  have hKn := C.2.2.2.2.1.1.1 ci _ hc
  refine W.newcK C.1 C.2.1 C.2.2.1 (C.2.2.2.1 _ h1) (C.2.2.2.1 _ h2) (C.2.2.2.1 _ h3) rfl d1 (Nat.le_of_ble_eq_true hR0) (Nat.le_of_ble_eq_true hR00) hKn.2.1 rfl fun H1 kC hkC e1 z1 o1 => ?_
  rw [hz] at e1 z1 o1
  rw [hz]
  have hP1 : va_P g.1 vwCl (mE b (0 + 1) (bE (fun _ => .inr (ci, fs)) 0 (fun _ => .inr (ci, fs)))) H1 := by
    intro k q hq
    obtain ⟨hk, rfl⟩ := mE_of hq
    rw [show k = 0 by omega, bE_r (Nat.le_refl 0)]
    exact ⟨_, hc, (u_born ty C.2.2.2.1 hin hKn hkC e1 hty).to hfs⟩
  have hS1 : va_S (fun q => s.heap.size ≤ q) s.heap H1 locs := ⟨by omega, fun q q1 q2 => (o1 q (by omega)).trans (hS.2.1 q q1 q2), hS.2.2⟩
  refine lv_dup C.1 C.2.1 d2 rfl ?_
  have hG : GoodIn wsL_law (.code y cc' nL' none :: wsL_law) := ws_gd (fun w hw => by
    rcases List.mem_cons.mp hw with rfl | h
    · exact m5
    · exact h)
  refine W.callMk2 (va_runI (As := []) (rest := [.ref (b + 0)]) ⟨C.1, C.2.1, hml, C.2.2.1, C.2.2.2.1⟩ (hM (fun _ => .inr (ci, fs))) ⟨callB_of 0 C.2.2.2.1 hG rfl rfl rfl (C.2.2.2.1 _ m4) (C.2.2.2.1 _ m1) ⟨hy.1, hy.2, hpd⟩ ⟨Nat.le_of_ble_eq_true hR1, Nat.le_of_ble_eq_true hR2⟩, hi, C.2.2.2.1 _ m2⟩
    ⟨blindA, fun U hU hW => ⟨rfl, by rw [hU, z1], by rw [hU]; exact hP1, KK_all C.2.2.2.2.1 hW⟩⟩ rfl rfl rfl rfl (lv_room (Nat.le_of_ble_eq_true rfl)) d3 ⟨Nat.le_of_ble_eq_true hR3, Nat.le_of_ble_eq_true hR4⟩) hS1 (fun q hq => Nat.le_trans hbs hq) (fun H2 locs2 hz2 hP2 hk2 hS2 => ?_)
  refine kk H2 locs2 (by rw [hz2, Nat.zero_add]) ?_ (fun q hq => ?_) hS2
  · rw [Nat.zero_add] at hP2
    rw [← mE_ext (E := bE (fun _ => .inr (ci, fs)) 0 Tm) (fun k _ => bE_r (Nat.zero_le k))]
    exact hP2
  · rw [hk2 q (by omega) (fun z => by have : b ≤ q := z; omega)]
    exact o1 q hq
end START
set_option maxRecDepth 100000 in
set_option maxHeartbeats 4000000 in
/-- YOUR PART: from the entry, for every script of at most 2048 ints, the law comes to its end with true -/
theorem whole_start {p : Program} {e : Env} {s : State} {m : MethodId} {below : List Frame} {meth : Method} {c : Code} (l : Launch) (hflags : l.flags = flags0) {b L : Nat} {xs : Nat → Int32} (hL : L ≤ 2048) (C0 : lw_At p s m meth c b L xs) : W p l e room_1 s m #[Value.ref b] below meth c s.heap [] 0 0 (lw_Z below #[Value.ref b] s) (entryFrame m ([Value.ref b] : List Value).toArray 4) := by
  obtain ⟨hx, hb, hr, hml, hown, hts, hX, hbl, hlocks, hgv⟩ := id C0
  obtain ⟨g, hK⟩ := kk_start hts
  have hws := kk_wsL hts
  have C : cx g p s m #[Value.ref b] meth c RL cL_law := ⟨hx, hb, hown, hws, hK, hlocks⟩
  have CL : cL g p s m c b L s.heap.size xs := ⟨hx, hb, hown, hws, hK, hX, hbl, hml, Nat.le_refl _⟩
  have hl := lv_entry ([.ref b]) (n := 4) (Nat.le_of_ble_eq_true rfl)
  rw [lg_entry_eq]
  generalize (lg_sl ([.ref b]) ++ List.replicate (4 - (lg_sl ([.ref b])).length) Slot.unset).toArray = ls at hl ⊢
  have hl : lvO ls [some (.ref b), none, none, none] := hl
  refine l_make C (ci := 10) (fs := [.null, .null, .null, .null]) (b := s.heap.size) inlX10 tyX10 tyX10_ok kw_1_0 kw_1_1 kw_1_2 rfl (fun j hj => match j, hj with | 0, _ => rfl | 1, _ => rfl | 2, _ => rfl | 3, _ => rfl | (j + 4), h => absurd h (by omega)) kw_1_6 kw_1_7 kw_1_2 kw_1_8 ⟨by decide +kernel, by decide +kernel⟩ (by decide +kernel) rfl dL_law_0 dL_law_3 dL_law_4 (k_X10_init 0) rfl (Nat.le_refl _) va_S.rf (hml.trans hl.1.symm) rfl rfl rfl rfl rfl rfl (fun H1 locs1 hz1 hP1 ho1 hS1 => ?_)
  refine lv_astore_n hx hb dL_law_7 rfl hl (Nat.le_of_ble_eq_true rfl) rfl (fun ls1 hl1 => ?_)
  have hl1 := lvO_st (L := [some (.ref b), none, none, none]) (i := 1) (w := .ref (s.heap.size + 0)) rfl hl1
  refine l_make C (ci := 11) (fs := [.null, .null, .null, .null, .int 0, .null, .int 0, .int 0, .int 0, .int 0, .null]) (b := s.heap.size + 328) inlX11 tyX11 tyX11_ok kw_1_3 kw_1_4 kw_1_5 rfl (fun j hj => match j, hj with | 0, _ => rfl | 1, _ => rfl | 2, _ => rfl | 3, _ => rfl | 4, _ => rfl | 5, _ => rfl | 6, _ => rfl | 7, _ => rfl | 8, _ => rfl | 9, _ => rfl | 10, _ => rfl | (j + 11), h => absurd h (by omega)) kw_5_3 kw_5_4 kw_1_5 kw_5_5 ⟨by decide +kernel, by decide +kernel⟩ (by decide +kernel) rfl dL_law_8 dL_law_11 dL_law_12 (k_X11_init 0) hz1 (Nat.le_add_right _ _) hS1 (hml.trans hl1.1.symm) rfl rfl rfl rfl rfl rfl (fun H2 locs2 hz2 hP2 ho2 hS2 => ?_)
  refine lv_astore_n hx hb dL_law_15 rfl hl1 (Nat.le_of_ble_eq_true rfl) rfl (fun ls2 hl2 => ?_)
  have hl2 := lvO_st (i := 2) (w := .ref (s.heap.size + 328 + 0)) rfl hl2
  refine lv_iconst (v := nI (4 * 0)) hx hb dL_law_16 (by decide +kernel) ?_
  refine lv_istore_n hx hb dL_law_17 rfl hl2 (Nat.le_of_ble_eq_true rfl) rfl (fun ls3 hl3 => ?_)
  have hl3 := lvO_st (i := 3) (w := .int (nI (4 * 0))) rfl hl3
  refine W.widen (k := 600000) (n := 7302250) (Nat.le_of_ble_eq_true rfl) (Nat.le_of_ble_eq_true rfl) ?_
  refine law_loop CL hL hr hlocks (L / 4) 0 vC0 wM0 0 0 0 (by omega) zr_start (by omega) H2 locs2 ls3 ⟨mW_keep (mem_C hP1) (fun q z1 z2 _ => ho2 q z2), mem_M hP2⟩ hS2 hl3 rfl
