/-! ===== methods of a class that stands among the overridden ones, without a row of their own ===== -/
theorem MetF_ofW {l : Launch} {y : MethodName} {ws ws' : List Cond} {rm : Room} {Pc : Array Value → State → Prop} {Qc : Array Value → State → Outcome → State → Prop} {mc ms : Nat} {free : Addr → Prop} {cc : ByteArray} {maxL : Nat} {ret : Option FieldType}
    (hy : plainFor y = true) (hw : ws = Cond.code y cc maxL ret :: ws')
    (body : ∀ p e s m args below meth c s₁, BodyLoose p l y (headSpec ws rm) cc maxL ret e s m args below meth c s₁ → c.maxLocals = maxL → Pc args s →
      W p l e (headSpec ws rm).room s m args below meth c s.heap [] 0 0 (MQ below Qc args s mc ms free) (entryFrame m args maxL)) : Met l y ws rm Pc Qc mc ms free := by
  refine MetFree.of_bodySF (code := cc) (maxLocals := maxL) (ret := ret) hy ?_ ?_
  · intro args s m h hn
    obtain ⟨meth, c, h1, h2, h3, h4, h5, h6, -⟩ := Cond.code_spec hn (atoms_spec (ws := ws) h _ (by rw [hw]; exact List.mem_cons_self))
    exact ⟨meth, c, h1, h2, h3, h4, h5, h6⟩
  · intro p e s m args below meth c s₁ B hml hP _
    have hh0 : s₁.heap = s.heap := by rw [B.state]; rfl
    obtain ⟨t, a1, o, b1, b2, b3⟩ := body p e s m args below meth c s₁ B hml hP s₁ hh0 (Stand.of_body B)
    exact ⟨t, o, a1, b1, b2, ⟨b3.1, b3.2⟩⟩
section CTF
variable {g : mG} {l : Launch} {tpl : mT} {b n : Nat} {cc : ByteArray} {v : mV}
theorem CTF_intro {y : MethodName} {nL : Nat} {ret : Option FieldType} {rm : Room} {av : List Value} {post : Option Value → mV → Prop} (L0 : List (Option Value)) (hy : plainFor y = true) (hL : L0.length = nL) (hp : prs 0 L0 = lv_args 0 av) (hn : Nat.ble (lg_sl av).length nL = true)
    (body : ∀ (p : Program) (e : Env) (s : State) (m : MethodId) (below : List Frame) (meth : Method) (c : Code), cx g p s m av.toArray meth c y.cls cc → meth.sig.returnType = ret → WM g p l e rm s m av.toArray below meth c (MQ below (CTQ g tpl b n post) av.toArray s 0 0 (aR b n)) tpl b n v 0 L0 []) : CT g l tpl b n y cc nL ret rm av v post := by
  refine MetF_ofW (cc := cc) (maxL := nL) (ret := ret) hy rfl ?_
  intro p e s m args below meth c s₁ B hml hv
  obtain ⟨rfl, hP, hK⟩ := hv
  have hts := atoms_spec (ws := .code y cc nL ret :: wsL_law) B.pre
  have hl := lv_entry av (n := nL) (Nat.le_of_ble_eq_true hn)
  rw [lg_entry_eq]
  generalize (lg_sl av ++ List.replicate (nL - (lg_sl av).length) Slot.unset).toArray = ls at hl ⊢
  exact body p e s m below meth c ⟨B.exec, B.bytes, findClass_of_methodNamed B.named, fun w hw => hts w (List.mem_cons_of_mem _ hw), hK, B.notSynchronized⟩ B.returns s.heap [] ls hP va_S.rf (by unfold lvO; rw [hp, hL]; exact hl) (hml.trans hL.symm)
theorem CTF_introI {y : MethodName} {nL : Nat} {rm : Room} {av : List Value} {post : Option Value → mV → Prop} (L0 : List (Option Value)) (own : String) (hy : plainFor y = true) (ho : y.cls = own) (hL : L0.length = nL) (hp : prs 0 L0 = lv_args 0 av) (hn : Nat.ble (lg_sl av).length nL = true)
    (body : ∀ (p : Program) (e : Env) (s : State) (m : MethodId) (args : Array Value) (below : List Frame) (meth : Method) (c : Code) (Q : State → Prop), cx g p s m args meth c own cc → (∀ (pc : Nat) (L : List (Option Value)) (x : Int32) (v' : mV), decode cc pc = .ok (.ireturn, 1) → post (some (.int x)) v' → WM g p l e rm s m args below meth c Q tpl b n v' pc L [.int x]) → WM g p l e rm s m args below meth c Q tpl b n v 0 L0 []) : CT g l tpl b n y cc nL (some .int) rm av v post := by
  subst ho
  exact CTF_intro L0 hy hL hp hn (fun p e s m below meth c C hr => body p e s m av.toArray below meth c _ C (fun pc L x v' hd hq => r_iret C hr hd hq))
theorem CTF_introZ {y : MethodName} {nL : Nat} {ty : FieldType} {rm : Room} {av : List Value} {post : Option Value → mV → Prop} (L0 : List (Option Value)) (own : String) (hy : plainFor y = true) (ho : y.cls = own) (hL : L0.length = nL) (hp : prs 0 L0 = lv_args 0 av) (hn : Nat.ble (lg_sl av).length nL = true)
    (body : ∀ (p : Program) (e : Env) (s : State) (m : MethodId) (args : Array Value) (below : List Frame) (meth : Method) (c : Code) (Q : State → Prop), cx g p s m args meth c own cc → (∀ (pc : Nat) (L : List (Option Value)) (x : Int32) (v' : mV), narrow ty (.int x) = .int x → decode cc pc = .ok (.ireturn, 1) → post (some (.int x)) v' → WM g p l e rm s m args below meth c Q tpl b n v' pc L [.int x]) → WM g p l e rm s m args below meth c Q tpl b n v 0 L0 []) : CT g l tpl b n y cc nL (some ty) rm av v post := by
  subst ho
  exact CTF_intro L0 hy hL hp hn (fun p e s m below meth c C hr => body p e s m av.toArray below meth c _ C (fun pc L x v' hx hd hq => r_zret C hr hx hd hq))
end CTF
theorem pf_isNaN : plainFor yJxf58ca_isNaN_12338 = true := by decide +kernel
theorem pf_toBits : plainFor yJxf58ca_floatToIntBits_5c35a = true := by decide +kernel
