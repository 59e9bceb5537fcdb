/-! ===== making: fields, rows, calls ===== -/
def bE (E : Nat → va_E) (k : Nat) (Tm : Nat → va_E) : Nat → va_E := fun q => if q < k then E q else Tm q
theorem bE_l {E Tm : Nat → va_E} {k q : Nat} (h : q < k) : bE E k Tm q = E q := if_pos h
theorem bE_r {E Tm : Nat → va_E} {k q : Nat} (h : k ≤ q) : bE E k Tm q = Tm q := if_neg (by omega)
def CAQ (g : mG) (b n' : Nat) (E' : Nat → va_E) : Array Value → State → Outcome → State → Prop := fun _ st oc t => (oc = .returned none ∧ t.heap.size = b + n' ∧ va_P g.1 vwCl (mE b n' E') t.heap) ∧ va_F (aB b) st t
/-- the constructor `y` at cell k, the newest one, makes the block k … k + sz - 1 -/
def CA (g : mG) (l : Launch) (b : Nat) (y : MethodName) (cc : ByteArray) (nL : Nat) (rm : Room) (k sz : Nat) (e0 : va_E) (Tm : Nat → va_E) : Prop :=
  ∀ E : Nat → va_E, Met l y (.code y cc nL none :: wsL_law) rm (va_Pc [.ref (b + k)] (fun U => U.heap.size = b + (k + 1) ∧ va_P g.1 vwCl (mE b (k + 1) (bE E k (fun _ => e0))) U.heap ∧ KK g U)) (CAQ g b (k + sz) (bE E k Tm)) rm.cells rm.slots (aB b)
section ROWSB
variable {g : mG} {p : Program} {l : Launch} {e : Env} {R : Room} {s : State} {m : MethodId} {args : Array Value} {below : List Frame} {meth : Method} {c : Code} {Q : State → Prop} {b n : Nat} {E : Nat → va_E} {kc ks : Nat} {pc : Nat} {L : List (Option Value)} {st : List Value} {own : String} {cc : ByteArray}
theorem W.sz {H : Heap} {locs : List Loc} {fr : JFrame} (kk : H.size ≤ s.heap.size + kc → W p l e R s m args below meth c H locs kc ks Q fr) : W p l e R s m args below meth c H locs kc ks Q fr := fun T hT X => kk (by have := X.same.2.2.1; rw [← hT]; exact this) T hT X
theorem W.szE {H : Heap} {locs : List Loc} {fr : JFrame} {E1 : Nat → va_E} (hn : 0 < n) (hkc : s.heap.size + kc = b + n) (hP : va_P g.1 vwCl (mE b n E1) H) (kk : H.size = b + n ∧ s.heap.size + kc = b + n → W p l e R s m args below meth c H locs kc ks Q fr) : W p l e R s m args below meth c H locs kc ks Q fr := W.sz (fun h => kk ⟨by
  have := (hP (n - 1) _ (mE_get (e := E1 (n - 1)) (by omega) rfl)).lt
  have : b + (n - 1) < H.size := this
  omega, hkc⟩)
theorem a_get (C : cxA g p s m args meth c own cc b) {ref Cn : String} {T : u_T} {N ci index k : Nat} {fs : List Value} (hin : ∀ w ∈ u_ws Cn T N, w ∈ wsL_law) (hc : vwCl[ci]? = some (Cn, T, N)) (j : Nat) (hj : j < N) (hlink : Cond.fieldLink own index ref (T j).2.1 (T j).2.2.1 ∈ wsL_law) (hsame : (T j).1 = ref) {x : Value} (hd : decode cc pc = .ok (.getfield index, 3)) (hk : k < n) (ht : E k = .inr (ci, fs)) (hx : fs[j]? = some x) (kk : WA g p l e R s m args below meth c Q b n E kc ks (pc + 3) L (x :: st)) : WA g p l e R s m args below meth c Q b n E kc ks pc L (.ref (b + k) :: st) := fun H locs ls hz hP hS hl hm =>
  va_get (D := g.1) (ws := mE b n E) C.1.1 C.1.2.1 C.1.2.2.2.1 hin C.1.2.2.1 C.1.2.2.2.2.1.1 hP k (mE_get hk ht) hc j hj (C.1.2.2.2.1 _ hlink) (fun _ h => by rw [← hsame]; exact h) hx hd (kk H locs ls hz hP hS hl hm)
theorem a_alen (C : cxA g p s m args meth c own cc b) {k t0 : Nat} {x : vp_A} {ty : FieldType} {y : Int32} (hd : decode cc pc = .ok (.arraylength, 1)) (hk : k < n) (ht : E k = .inl (g.2 t0, x)) (hty : (tysG g)[t0]? = some (g.2 t0, ty)) (hy : Int32.ofNat x.1 = y) (kk : WA g p l e R s m args below meth c Q b n E kc ks (pc + 1) L (.int y :: st)) : WA g p l e R s m args below meth c Q b n E kc ks pc L (.ref (b + k) :: st) := fun H locs ls hz hP hS hl hm =>
  va_alen (D := g.1) (ws := mE b n E) C.1.1 C.1.2.1 C.1.2.2.2.2.1.1 hP k t0 (mE_get hk ht) hty hy hd (kk H locs ls hz hP hS hl hm)
theorem a_putF (C : cxA g p s m args meth c own cc b) {ref Cn : String} {T : u_T} {N ci index k : Nat} {fs : List Value} (hin : ∀ w ∈ u_ws Cn T N, w ∈ wsL_law) (ty0 : Nat → FieldType) (hty : ∀ k, k < N → parseFieldDescriptor (T k).2.2.1 = some (ty0 k)) (hnm : ∀ a, a < N → ∀ b, b < N → a ≠ b → (T a).2.1 ≠ (T b).2.1) (hc : vwCl[ci]? = some (Cn, T, N)) (j : Nat) (hj : j < N) (hlink : Cond.fieldLink own index ref (T j).2.1 (T j).2.2.1 ∈ wsL_law) (hsame : (T j).1 = ref) (hfin : (T j).2.2.2 = true) (hown : (T j).1 = own) {y : Value} (hn : narrow (ty0 j) y = y) (hfit : fits (ty0 j) y = true) (hd : decode cc pc = .ok (.putfield index, 3)) (hk : k < n) (ht : E k = .inr (ci, fs)) (hl0 : j < fs.length) (kk : WA g p l e R s m args below meth c Q b n (eS E k (.inr (ci, fs.set j y))) kc ks (pc + 3) L st) : WA g p l e R s m args below meth c Q b n E kc ks pc L (y :: .ref (b + k) :: st) := fun H locs ls hz hP hS hl hm =>
  va_putF (D := g.1) (ws := mE b n E) (A := aB b) C.1.1 C.1.2.1 C.1.2.2.2.1 hin ty0 hty hnm C.1.2.2.1 C.1.2.2.2.2.1.1 hP mE_D hS k (mE_get hk ht) hc j hj (C.1.2.2.2.1 _ hlink) (fun _ h => by rw [← hsame]; exact h) hfin C.2.2 hown (hty j hj) hn hfit hl0 hd (fun H1 locs1 hP1 _ hS1 => by
    rw [mE_set hk] at hP1
    exact W.szE (by omega) hz.2 hP1 (fun hz1 => kk H1 locs1 ls hz1 hP1 hS1 hl hm))
theorem a_put (C : cxA g p s m args meth c own cc b) {ref Cn : String} {T : u_T} {N ci index k : Nat} {fs : List Value} (hin : ∀ w ∈ u_ws Cn T N, w ∈ wsL_law) (ty0 : Nat → FieldType) (hty : ∀ k, k < N → parseFieldDescriptor (T k).2.2.1 = some (ty0 k)) (hnm : ∀ a, a < N → ∀ b, b < N → a ≠ b → (T a).2.1 ≠ (T b).2.1) (hc : vwCl[ci]? = some (Cn, T, N)) (j : Nat) (hj : j < N) (hlink : Cond.fieldLink own index ref (T j).2.1 (T j).2.2.1 ∈ wsL_law) (hsame : (T j).1 = ref) (hfin : (T j).2.2.2 = false) {y : Value} (hn : narrow (ty0 j) y = y) (hfit : fits (ty0 j) y = true) (hd : decode cc pc = .ok (.putfield index, 3)) (hk : k < n) (ht : E k = .inr (ci, fs)) (hl0 : j < fs.length) (kk : WA g p l e R s m args below meth c Q b n (eS E k (.inr (ci, fs.set j y))) kc ks (pc + 3) L st) : WA g p l e R s m args below meth c Q b n E kc ks pc L (y :: .ref (b + k) :: st) := fun H locs ls hz hP hS hl hm =>
  va_put (D := g.1) (ws := mE b n E) (A := aB b) C.1.1 C.1.2.1 C.1.2.2.2.1 hin ty0 hty hnm C.1.2.2.1 C.1.2.2.2.2.1.1 hP mE_D hS k (mE_get hk ht) hc j hj (C.1.2.2.2.1 _ hlink) (fun _ h => by rw [← hsame]; exact h) hfin (hty j hj) hn hfit hl0 hd (fun H1 locs1 hP1 _ hS1 => by
    rw [mE_set hk] at hP1
    exact W.szE (by omega) hz.2 hP1 (fun hz1 => kk H1 locs1 ls hz1 hP1 hS1 hl hm))
theorem a_astq (C : cxA g p s m args meth c own cc b) {k t0 qk ci sz j : Nat} {r : vw_C} {vs : List Value} {f : Nat → Option Nat} {i : Int32} (hd : decode cc pc = .ok (.aastore, 1)) (hk : k < n) (ht : E k = .inl (g.2 t0, sz, .inr (.inr (.inr (.inr f))))) (hty : (tysG g)[t0]? = some (g.2 t0, .object r.1)) (hq : qk < n) (he : E qk = .inr (ci, vs)) (hc : vwCl[ci]? = some r) (hi : i = nI j) (hj : j < sz) (hz0 : sz < 2 ^ 31) (kk : WA g p l e R s m args below meth c Q b n (eS E k (.inl (g.2 t0, sz, .inr (.inr (.inr (.inr (va_up f j (some (b + qk)))))))))  kc ks (pc + 1) L st) : WA g p l e R s m args below meth c Q b n E kc ks pc L (.ref (b + qk) :: .int i :: .ref (b + k) :: st) := fun H locs ls hz hP hS hl hm => by
  obtain ⟨h1, h2⟩ := ix_in hi hj hz0
  refine va_astq (D := g.1) (ws := mE b n E) (A := aB b) C.1.1 C.1.2.1 C.1.2.2.2.2.1.1 hP mE_D hS k t0 qk ci (mE_get hk ht) hty (mE_get hq he) hc h1 hd (fun H1 locs1 hP1 _ hS1 => ?_)
  rw [h2, mE_set hk] at hP1
  exact W.szE (by omega) hz.2 hP1 (fun hz1 => kk H1 locs1 ls hz1 hP1 hS1 hl hm)
theorem a_iast (C : cxA g p s m args meth c own cc b) {k sz j : Nat} {f : Nat → Int32} {i x : Int32} (hd : decode cc pc = .ok (.iastore, 1)) (hk : k < n) (ht : E k = .inl (g.2 0, sz, .inl f)) (hi : i = nI j) (hj : j < sz) (hz0 : sz < 2 ^ 31) (kk : WA g p l e R s m args below meth c Q b n (eS E k (.inl (g.2 0, sz, .inl (upd f j x)))) kc ks (pc + 1) L st) : WA g p l e R s m args below meth c Q b n E kc ks pc L (.int x :: .int i :: .ref (b + k) :: st) := fun H locs ls hz hP hS hl hm => by
  obtain ⟨h1, h2⟩ := ix_in hi hj hz0
  refine va_iast (D := g.1) (ws := mE b n E) (A := aB b) C.1.1 C.1.2.1 C.1.2.2.2.2.1.1 hP mE_D hS k 0 (mE_get hk ht) rfl h1 hd (fun H1 locs1 hP1 _ hS1 => ?_)
  rw [h2, mE_set hk] at hP1
  exact W.szE (by omega) hz.2 hP1 (fun hz1 => kk H1 locs1 ls hz1 hP1 hS1 hl hm)
theorem a_conv {E1 : Nat → va_E} (hE : ∀ q, q < n → E q = E1 q) (kk : WA g p l e R s m args below meth c Q b n E1 kc ks pc L st) : WA g p l e R s m args below meth c Q b n E kc ks pc L st := fun H locs ls hz hP hS hl hm => kk H locs ls hz (by rw [← mE_ext hE]; exact hP) hS hl hm
theorem a_ret (C : cxA g p s m args meth c own cc b) {n' mc ms : Nat} {E' : Nat → va_E} (hn : n = n') (hE : ∀ k, k < n → E k = E' k) (hc : kc = mc) (hs : ks = ms) (hr : meth.sig.returnType = none) (hd : decode cc pc = .ok (.return_, 1)) : WA g p l e R s m args below meth c (MQ below (CAQ g b n' E') args s mc ms (aB b)) b n E kc ks pc L [] := fun H locs ls hz hP hS hl hm => by
  subst hc hs
  exact W.vret C.1.1 C.1.2.1 hr (fun t ht _ => ⟨⟨rfl, by rw [ht, hz.1, hn], by rw [ht, ← hn, ← mE_ext hE]; exact hP⟩, hS.F ht⟩) hS.2.2 hd C.1.2.2.2.2.2
theorem CA.intro {y : MethodName} {nL : Nat} {rm : Room} {k sz : Nat} {e0 : va_E} {Tm : Nat → va_E} (L0 : List (Option Value)) (hy : plainName y.cls = true) (hi : y.name = "<init>") (hL : L0.length = nL) (hp : prs 0 L0 = lv_args 0 [.ref (b + k)]) (hn : Nat.ble 1 nL = true)
    (body : ∀ (E : Nat → va_E) (p : Program) (e : Env) (s : State) (m : MethodId) (args : Array Value) (below : List Frame) (meth : Method) (c : Code) (Q : State → Prop), cxA g p s m args meth c y.cls cc b → (∀ (E1 : Nat → va_E) (n kc ks pc : Nat) (L : List (Option Value)), decode cc pc = .ok (.return_, 1) → n = k + sz → kc = rm.cells → ks = rm.slots → (∀ q, q < n → E1 q = bE E k Tm q) → WA g p l e rm s m args below meth c Q b n E1 kc ks pc L []) → WA g p l e rm s m args below meth c Q b (k + 1) (bE E k (fun _ => e0)) 0 0 0 L0 []) : CA g l b y cc nL rm k sz e0 Tm := fun E => by
  refine Met.ofW (cc := cc) (maxL := nL) (ret := none) hy rfl ?_
  intro p e s m args below meth c s₁ B hml hv
  obtain ⟨rfl, hz, hP, hK⟩ := hv
  have hts := atoms_spec (ws := .code y cc nL none :: wsL_law) B.pre
  have hl := lv_entry [.ref (b + k)] (n := nL) (Nat.le_of_ble_eq_true hn)
  rw [lg_entry_eq]
  generalize (lg_sl [.ref (b + k)] ++ List.replicate (nL - (lg_sl [.ref (b + k)]).length) Slot.unset).toArray = ls at hl ⊢
  have hC : cxA g p s m [Value.ref (b + k)].toArray meth c y.cls cc b := ⟨⟨B.exec, B.bytes, findClass_of_methodNamed B.named, fun w hw => hts w (List.mem_cons_of_mem _ hw), hK, B.notSynchronized⟩, by omega, (name_of_methodNamed B.named B.method).1.trans hi⟩
  exact body E p e s m _ below meth c _ hC (fun E1 n kc ks pc L hd h1 h2 h3 h4 => a_ret hC h1 h4 h2 h3 B.returns hd) s.heap [] ls ⟨hz, by omega⟩ hP va_S.rf (by unfold lvO; rw [hp, hL]; exact hl) (hml.trans hL.symm)
theorem W.callMk {n' mc ms : Nat} {E' : Nat → va_E} {H : Heap} {locs : List Loc} {ls : Array Slot} {st0 rest : List Value} {a : Array Value} {H0 : Heap} (hr : va_Run p l e R s m args below meth c H locs kc ks mc ms (F0 m pc ls st0) rest (CAQ g b n' E' a) (aB b)) (hS : va_S (aB b) H0 H locs)
    (kk : ∀ (H1 : Heap) (locs1 : List Loc), H1.size = b + n' → va_P g.1 vwCl (mE b n' E') H1 → va_S (aB b) H0 H1 locs1 → W p l e R s m args below meth c H1 locs1 (kc + mc) (ks + ms) Q (F0 m (pc + 3) ls rest)) : W p l e R s m args below meth c H locs kc ks Q (F0 m pc ls st0) := by
  intro T hT X
  obtain ⟨w, st₀, t, T', L, h0, X', hL, e1, e2, ⟨⟨hv, hz1, hP1⟩, hz, hk⟩, stp⟩ := hr T hT X
  cases hv
  rw [h0] at hz hk
  obtain ⟨t2, a1, b1⟩ := kk T'.heap (locs ++ L) (by rw [e1]; exact hz1) (by rw [e1]; exact hP1)
    ⟨Nat.le_trans hS.1 (by rw [e1]; exact hz), fun q h1 h2 => by rw [e1, hk q (Nat.lt_of_lt_of_le h1 hS.1) h2]; exact hS.2.1 q h1 h2, fun q hq => by
      rcases List.mem_append.mp hq with h | h
      · exact hS.2.2 q h
      · exact hL q h⟩ T' rfl X'
  exact ⟨t2, stp t2 a1, b1⟩
theorem blindA {av : List Value} {z : Nat} {W1 : va_W} : FrameBlind (va_Pc av (fun U => U.heap.size = z ∧ va_P g.1 vwCl W1 U.heap ∧ KK g U)) := fun a U gg mk q => ⟨q.1, q.2.1, q.2.2.1, KK_same (u := U) (U := U.calling gg mk a) rfl q.2.2.2⟩
theorem a_callI (C : cxA g p s m args meth c own cc b) {y : MethodName} {cc' : ByteArray} {nL' k sz : Nat} {rm : Room} {index : Nat} {e0 : va_E} {Tm : Nat → va_E}
    (h1 : Cond.methodLink own index y ∈ wsL_law) (h2 : Cond.instanceMethod y ∈ wsL_law) (h4 : Cond.initialized y.cls ∈ wsL_law) (h5 : Cond.code y cc' nL' none ∈ wsL_law) (hy : y.cls ≠ "java/lang/invoke/MethodHandle" ∧ y.cls ≠ "java/lang/invoke/VarHandle") (hpd : (parseMethodDescriptor y.desc).map (fun d => d.parameters.length) = some 0) (hi : y.name = "<init>")
    (hd : decode cc pc = .ok (.invokespecial index, 3)) (hM : CA g l b y cc' nL' rm k sz e0 Tm) (hn : n = k + 1) (hE : E k = e0) (hsz : sz = rm.cells + 1) (hR1 : Nat.ble (rm.frames + 1) R.frames = true) (hR2 : Nat.ble (8 + (nL' + 11) + rm.locals) R.locals = true) (hR3 : Nat.ble (kc + rm.cells) R.cells = true) (hR4 : Nat.ble (ks + rm.slots) R.slots = true) (hst : Nat.ble ((st.map fun v => v.category).sum) 8 = true)
    (kk : WA g p l e R s m args below meth c Q b (k + sz) (bE E k Tm) (kc + rm.cells) (ks + rm.slots) (pc + 3) L st) : WA g p l e R s m args below meth c Q b n E kc ks pc L (.ref (b + k) :: st) := fun H locs ls hz hP hS hl hm => by
  have hG : GoodIn wsL_law (.code y cc' nL' none :: wsL_law) := ws_gd (fun w hw => by
    rcases List.mem_cons.mp hw with rfl | h
    · exact h5
    · exact h)
  have hEE : mE b (k + 1) (bE E k (fun _ => e0)) = mE b n E := by
    subst hn
    refine mE_ext (fun q hq => ?_)
    rcases Nat.lt_or_ge q k with h | h
    · exact bE_l h
    · rw [bE_r h, show q = k by omega, hE]
  exact W.callMk (va_runI (As := []) (rest := st) ⟨C.1.1, C.1.2.1, hm.trans hl.1.symm, C.1.2.2.1, C.1.2.2.2.1⟩ (hM E) ⟨callB_of 0 C.1.2.2.2.1 hG rfl rfl rfl (C.1.2.2.2.1 _ h4) (C.1.2.2.2.1 _ h1) ⟨hy.1, hy.2, hpd⟩ ⟨Nat.le_of_ble_eq_true hR1, Nat.le_of_ble_eq_true hR2⟩, hi, C.1.2.2.2.1 _ h2⟩
    ⟨blindA, fun U hU hW => ⟨rfl, by rw [hU, hz.1, hn], by rw [hU, hEE]; exact hP, KK_all C.1.2.2.2.2.1 hW⟩⟩ rfl rfl rfl rfl (lv_room (Nat.le_of_ble_eq_true hst)) hd ⟨Nat.le_of_ble_eq_true hR3, Nat.le_of_ble_eq_true hR4⟩) hS (fun H1 locs1 hz1 hP1 hS1 => kk H1 locs1 ls ⟨hz1, by have := hz.2; omega⟩ hP1 hS1 hl hm)
theorem a_callIN (C : cxA g p s m args meth c own cc b) {y : MethodName} {cc' : ByteArray} {nL' k sz : Nat} {rm : Room} {index : Nat} {e0 : va_E} {Tm : Nat → va_E} {host : String}
    (h1 : (own, index, y, host) ∈ nestL) (h2 : Cond.instanceMethod y ∈ wsL_law) (h4 : Cond.initialized y.cls ∈ wsL_law) (h5 : Cond.code y cc' nL' none ∈ wsL_law) (hy : y.cls ≠ "java/lang/invoke/MethodHandle" ∧ y.cls ≠ "java/lang/invoke/VarHandle") (hpd : (parseMethodDescriptor y.desc).map (fun d => d.parameters.length) = some 0) (hi : y.name = "<init>")
    (hd : decode cc pc = .ok (.invokespecial index, 3)) (hM : CA g l b y cc' nL' rm k sz e0 Tm) (hn : n = k + 1) (hE : E k = e0) (hsz : sz = rm.cells + 1) (hR1 : Nat.ble (rm.frames + 1) R.frames = true) (hR2 : Nat.ble (8 + (nL' + 11) + rm.locals) R.locals = true) (hR3 : Nat.ble (kc + rm.cells) R.cells = true) (hR4 : Nat.ble (ks + rm.slots) R.slots = true) (hst : Nat.ble ((st.map fun v => v.category).sum) 8 = true)
    (kk : WA g p l e R s m args below meth c Q b (k + sz) (bE E k Tm) (kc + rm.cells) (ks + rm.slots) (pc + 3) L st) : WA g p l e R s m args below meth c Q b n E kc ks pc L (.ref (b + k) :: st) := fun H locs ls hz hP hS hl hm => by
  have hG : GoodIn wsL_law (.code y cc' nL' none :: wsL_law) := ws_gd (fun w hw => by
    rcases List.mem_cons.mp hw with rfl | h
    · exact h5
    · exact h)
  have hEE : mE b (k + 1) (bE E k (fun _ => e0)) = mE b n E := by
    subst hn
    refine mE_ext (fun q hq => ?_)
    rcases Nat.lt_or_ge q k with h | h
    · exact bE_l h
    · rw [bE_r h, show q = k by omega, hE]
  exact W.callMk (va_runIN (As := []) (rest := st) ⟨C.1.1, C.1.2.1, hm.trans hl.1.symm, C.1.2.2.1, C.1.2.2.2.1⟩ (hM E) ⟨va_cnB 0 C.1.2.2.2.1 hG rfl rfl rfl (C.1.2.2.2.2.1.2.1 _ h1) (C.1.2.2.2.1 _ h4) ⟨hy.1, hy.2, hpd⟩ ⟨Nat.le_of_ble_eq_true hR1, Nat.le_of_ble_eq_true hR2⟩, hi, C.1.2.2.2.1 _ h2⟩
    ⟨blindA, fun U hU hW => ⟨rfl, by rw [hU, hz.1, hn], by rw [hU, hEE]; exact hP, KK_all C.1.2.2.2.2.1 hW⟩⟩ rfl rfl rfl rfl (lv_room (Nat.le_of_ble_eq_true hst)) hd ⟨Nat.le_of_ble_eq_true hR3, Nat.le_of_ble_eq_true hR4⟩) hS (fun H1 locs1 hz1 hP1 hS1 => kk H1 locs1 ls ⟨hz1, by have := hz.2; omega⟩ hP1 hS1 hl hm)
end ROWSB
