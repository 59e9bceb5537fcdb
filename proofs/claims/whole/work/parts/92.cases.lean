/-! ===== the law's cases ===== -/
theorem ct_sv {g : mG} {l : Launch} {tpl : mT} {b n : Nat} {y : MethodName} {cc : ByteArray} {nL : Nat} {ret : Option FieldType} {rm : Room} {av : List Value} {w : mV} {post : Option Value → mV → Prop} (h : CT g l tpl b n y cc nL ret rm av (sv w (w 1)) post) : CT g l tpl b n y cc nL ret rm av w post := by
  rw [sv_id] at h
  exact h
section ZF
variable {v w : mV} {N st B : Nat}
theorem zr_sv (hZ : ZR v w N st B) : ZR v (sv w (w 1)) N st B := by
  rw [sv_id]
  exact hZ
theorem zr_facts (hZ : ZR v w N st B) : Rep v 1 (w 1) 0 ∧ INV (w 1) B ∧ CI v ∧ w 0 6 = nI N ∧ N ≤ 80 ∧ w 0 4 = nI st ∧ st ≤ 4 := ⟨hZ.1.1, hZ.1.2.1, hZ.1.2.2, hZ.2.1.2, hZ.2.1.1.1, hZ.2.2.1.2.1, hZ.2.2.1.2.2⟩
theorem inv_T {σ : Nat → Int32} (hV : INV σ B) : ∃ T, T ≤ 30000 ∧ MT σ T T := by
  obtain ⟨T, P, ⟨⟨h1, h2, -⟩, -⟩, -⟩ := hV
  exact ⟨T, h1, h2⟩
theorem zr_exc (hZ : ZR v w N st B) : (∀ k, k < 8 → ∃ e, e < 1048576 ∧ v (1 + (5 + 2 * k)) 1 = nI e) ∧ ∀ k, k < 8 → ∃ e, e < 1048576 ∧ w 1 (16 + 5 * k + 2) = nI e := by
  obtain ⟨T, P, ⟨-, hE, -⟩, -⟩ := hZ.1.2.1
  refine ⟨fun k hk => ?_, hE⟩
  obtain ⟨x, hx, ex⟩ := hE k hk
  exact ⟨x, hx, (hZ.1.1.2.2.1 k hk).2.2.1.trans ex⟩
theorem zr_ack (hZ : ZR v w N st B) (hB : B ≤ 50000) : ∃ x a : Nat, v (1 + 37) 9 = nI x ∧ v (1 + 37) 8 = nI a ∧ w 1 11 = nI x ∧ w 1 12 = nI a ∧ x < 2147483648 ∧ a < 2147483648 := by
  obtain ⟨T, P, ⟨-, -, ⟨a, x, k1, k2, k3, k4⟩, -⟩, -⟩ := hZ.1.2.1
  obtain ⟨-, -, -, -, -, -, -, -, -, r8, r9⟩ := hZ.1.1.1
  exact ⟨x, a, r9.trans k3, r8.trans k1, k3, k1, by omega, by omega⟩
theorem zr_uno (hZ : ZR v w N st B) : ∃ x a : Nat, v (1 + 37) 6 = nI x ∧ v (1 + 37) 7 = nI a ∧ w 1 9 = nI x ∧ mAll (w 1) = nI a ∧ x < 2147483648 ∧ a < 2147483648 := by
  obtain ⟨T, P, ⟨⟨hT, -⟩, -, -, ⟨u, u1, u2⟩, ⟨o, o1, o2⟩, -⟩, -⟩ := hZ.1.2.1
  obtain ⟨-, -, -, -, -, -, -, -, r6, -, -⟩ := hZ.1.1.1
  have hA := hZ.1.1.2.1
  unfold RA at hA
  rw [Int32.add_zero] at hA
  exact ⟨u, o, r6.trans u2, hA.trans o2, u2, o2, by omega, by omega⟩
end ZF
set_option maxRecDepth 100000 in
set_option maxHeartbeats 4000000 in
theorem lc_0 {g : mG} {p : Program} {l : Launch} {e : Env} {s : State} {m : MethodId} {below : List Frame} {meth : Method} {c : Code} {Q : State → Prop} {b0 L0 b : Nat} {xs : Nat → Int32} {v w : mV} {N st B j : Nat} (C : cL g p s m c b0 L0 b xs) (hL : L0 ≤ 2048) (hj : 4 * j + 3 < L0) (hZ : ZR v w N st B) (hB : B ≤ 50000) (next : ∀ (v2 w2 : mV) (N2 st2 B2 : Nat), ZR v2 w2 N2 st2 B2 → B2 ≤ B + 80 → WL g p l e s m below meth c Q b0 b v2 w2 850 [some (.ref b0), some (.ref (b + 0)), some (.ref (b + 328 + 0)), some (.int (nI (4 * j)))] []) : WL g p l e s m below meth c Q b0 b v w 152 [some (.ref b0), some (.ref (b + 0)), some (.ref (b + 328 + 0)), some (.int (nI (4 * j)))] [] := by
  obtain ⟨hR, hV, hc, hN, hN80, hst, hst4⟩ := zr_facts hZ
  have hI := hV.MI
  obtain ⟨T, hT, hMT⟩ := inv_T hV
  obtain ⟨hEq, st2, hZ2⟩ := z_person hZ
  refine l_aload_n C dL_law_152 rfl ?_
  refine l_callC C (as := []) (nas := 0) kw_5_13 kw_5_14 kw_5_15 kw_1_2 kw_5_16 ⟨by decide +kernel, by decide +kernel⟩ (by decide +kernel) rfl ⟨rfl, rfl⟩ dL_law_153 (c_X10_person isZ_C hc) rfl rfl rfl rfl rfl ?_
  refine l_aload_n C dL_law_156 rfl ?_
  refine l_callM C (as := []) (nas := 0) kw_9_22 kw_9_23 kw_10_0 kw_1_5 kw_10_1 ⟨by decide +kernel, by decide +kernel⟩ (by decide +kernel) rfl ⟨rfl, rfl⟩ dL_law_157 (ct_sv (c_X11_person (v := w) (σ := w 1) isM_M hI st hst hst4)) rfl rfl rfl rfl rfl ?_
  refine l_same (tgt := 850) C dL_law_160 rfl hEq ?_
  exact next _ _ _ _ _ hZ2 (by omega)
set_option maxRecDepth 100000 in
set_option maxHeartbeats 4000000 in
theorem lc_1 {g : mG} {p : Program} {l : Launch} {e : Env} {s : State} {m : MethodId} {below : List Frame} {meth : Method} {c : Code} {Q : State → Prop} {b0 L0 b : Nat} {xs : Nat → Int32} {v w : mV} {N st B j : Nat} (C : cL g p s m c b0 L0 b xs) (hL : L0 ≤ 2048) (hj : 4 * j + 3 < L0) (hZ : ZR v w N st B) (hB : B ≤ 50000) (next : ∀ (v2 w2 : mV) (N2 st2 B2 : Nat), ZR v2 w2 N2 st2 B2 → B2 ≤ B + 80 → WL g p l e s m below meth c Q b0 b v2 w2 850 [some (.ref b0), some (.ref (b + 0)), some (.ref (b + 328 + 0)), some (.int (nI (4 * j)))] []) : WL g p l e s m below meth c Q b0 b v w 165 [some (.ref b0), some (.ref (b + 0)), some (.ref (b + 328 + 0)), some (.int (nI (4 * j)))] [] := by
  obtain ⟨hR, hV, hc, hN, hN80, hst, hst4⟩ := zr_facts hZ
  have hI := hV.MI
  obtain ⟨T, hT, hMT⟩ := inv_T hV
  obtain ⟨hEq, st2, hZ2⟩ := z_region hZ (xs (4 * j + 1)) (xs (4 * j + 2)) (xs (4 * j + 3))
  refine l_aload_n C dL_law_165 rfl ?_
  refine l_aload_n C dL_law_166 rfl ?_
  refine l_iload_n C dL_law_167 rfl ?_
  refine l_iconst C dL_law_168 ic_1 ?_
  refine l_iadd C dL_law_169 ?_
  refine l_sld C hL (j := 4 * j + 1) dL_law_170 (na_add rfl kn_1) (by omega) ?_
  refine l_aload_n C dL_law_171 rfl ?_
  refine l_iload_n C dL_law_172 rfl ?_
  refine l_iconst C dL_law_173 ic_2 ?_
  refine l_iadd C dL_law_174 ?_
  refine l_sld C hL (j := 4 * j + 2) dL_law_175 (na_add rfl kn_2) (by omega) ?_
  refine l_aload_n C dL_law_176 rfl ?_
  refine l_iload_n C dL_law_177 rfl ?_
  refine l_iconst C dL_law_178 ic_3 ?_
  refine l_iadd C dL_law_179 ?_
  refine l_sld C hL (j := 4 * j + 3) dL_law_180 (na_add rfl kn_3) (by omega) ?_
  refine l_callC C (as := [.int (xs (4 * j + 1)), .int (xs (4 * j + 2)), .int (xs (4 * j + 3))]) (nas := 3) kw_10_15 kw_10_16 kw_10_17 kw_1_2 kw_10_18 ⟨by decide +kernel, by decide +kernel⟩ (by decide +kernel) rfl ⟨rfl, rfl⟩ dL_law_181 (c_X10_region isZ_C hc (xs (4 * j + 1)) (xs (4 * j + 2)) (xs (4 * j + 3))) rfl rfl rfl rfl rfl ?_
  refine l_aload_n C dL_law_184 rfl ?_
  refine l_aload_n C dL_law_185 rfl ?_
  refine l_iload_n C dL_law_186 rfl ?_
  refine l_iconst C dL_law_187 ic_1 ?_
  refine l_iadd C dL_law_188 ?_
  refine l_sld C hL (j := 4 * j + 1) dL_law_189 (na_add rfl kn_1) (by omega) ?_
  refine l_aload_n C dL_law_190 rfl ?_
  refine l_iload_n C dL_law_191 rfl ?_
  refine l_iconst C dL_law_192 ic_2 ?_
  refine l_iadd C dL_law_193 ?_
  refine l_sld C hL (j := 4 * j + 2) dL_law_194 (na_add rfl kn_2) (by omega) ?_
  refine l_aload_n C dL_law_195 rfl ?_
  refine l_iload_n C dL_law_196 rfl ?_
  refine l_iconst C dL_law_197 ic_3 ?_
  refine l_iadd C dL_law_198 ?_
  refine l_sld C hL (j := 4 * j + 3) dL_law_199 (na_add rfl kn_3) (by omega) ?_
  refine l_callM C (as := [.int (xs (4 * j + 1)), .int (xs (4 * j + 2)), .int (xs (4 * j + 3))]) (nas := 3) kw_11_6 kw_11_7 kw_11_8 kw_1_5 kw_11_9 ⟨by decide +kernel, by decide +kernel⟩ (by decide +kernel) rfl ⟨rfl, rfl⟩ dL_law_200 (ct_sv (c_X11_region (v := w) (σ := w 1) isM_M hI st hst hst4 (xs (4 * j + 1)) (xs (4 * j + 2)) (xs (4 * j + 3)))) rfl rfl rfl rfl rfl ?_
  refine l_same (tgt := 850) C dL_law_203 rfl hEq ?_
  exact next _ _ _ _ _ hZ2 (by omega)
set_option maxRecDepth 100000 in
set_option maxHeartbeats 4000000 in
theorem lc_2 {g : mG} {p : Program} {l : Launch} {e : Env} {s : State} {m : MethodId} {below : List Frame} {meth : Method} {c : Code} {Q : State → Prop} {b0 L0 b : Nat} {xs : Nat → Int32} {v w : mV} {N st B j : Nat} (C : cL g p s m c b0 L0 b xs) (hL : L0 ≤ 2048) (hj : 4 * j + 3 < L0) (hZ : ZR v w N st B) (hB : B ≤ 50000) (next : ∀ (v2 w2 : mV) (N2 st2 B2 : Nat), ZR v2 w2 N2 st2 B2 → B2 ≤ B + 80 → WL g p l e s m below meth c Q b0 b v2 w2 850 [some (.ref b0), some (.ref (b + 0)), some (.ref (b + 328 + 0)), some (.int (nI (4 * j)))] []) : WL g p l e s m below meth c Q b0 b v w 208 [some (.ref b0), some (.ref (b + 0)), some (.ref (b + 328 + 0)), some (.int (nI (4 * j)))] [] := by
  obtain ⟨hR, hV, hc, hN, hN80, hst, hst4⟩ := zr_facts hZ
  have hI := hV.MI
  obtain ⟨T, hT, hMT⟩ := inv_T hV
  obtain ⟨hEq, st2, hZ2⟩ := z_join hZ (xs (4 * j + 1)) (xs (4 * j + 2))
  refine l_aload_n C dL_law_208 rfl ?_
  refine l_aload_n C dL_law_209 rfl ?_
  refine l_iload_n C dL_law_210 rfl ?_
  refine l_iconst C dL_law_211 ic_1 ?_
  refine l_iadd C dL_law_212 ?_
  refine l_sld C hL (j := 4 * j + 1) dL_law_213 (na_add rfl kn_1) (by omega) ?_
  refine l_aload_n C dL_law_214 rfl ?_
  refine l_iload_n C dL_law_215 rfl ?_
  refine l_iconst C dL_law_216 ic_2 ?_
  refine l_iadd C dL_law_217 ?_
  refine l_sld C hL (j := 4 * j + 2) dL_law_218 (na_add rfl kn_2) (by omega) ?_
  refine l_callC C (as := [.int (xs (4 * j + 1)), .int (xs (4 * j + 2))]) (nas := 2) kw_11_17 kw_11_18 kw_11_19 kw_1_2 kw_11_20 ⟨by decide +kernel, by decide +kernel⟩ (by decide +kernel) rfl ⟨rfl, rfl⟩ dL_law_219 (c_X10_join isZ_C hc (xs (4 * j + 1)) (xs (4 * j + 2))) rfl rfl rfl rfl rfl ?_
  refine l_aload_n C dL_law_222 rfl ?_
  refine l_aload_n C dL_law_223 rfl ?_
  refine l_iload_n C dL_law_224 rfl ?_
  refine l_iconst C dL_law_225 ic_1 ?_
  refine l_iadd C dL_law_226 ?_
  refine l_sld C hL (j := 4 * j + 1) dL_law_227 (na_add rfl kn_1) (by omega) ?_
  refine l_aload_n C dL_law_228 rfl ?_
  refine l_iload_n C dL_law_229 rfl ?_
  refine l_iconst C dL_law_230 ic_2 ?_
  refine l_iadd C dL_law_231 ?_
  refine l_sld C hL (j := 4 * j + 2) dL_law_232 (na_add rfl kn_2) (by omega) ?_
  refine l_callM C (as := [.int (xs (4 * j + 1)), .int (xs (4 * j + 2))]) (nas := 2) kw_12_17 kw_12_18 kw_12_19 kw_1_5 kw_12_20 ⟨by decide +kernel, by decide +kernel⟩ (by decide +kernel) rfl ⟨rfl, rfl⟩ dL_law_233 (ct_sv (c_X11_join (v := w) (σ := w 1) isM_M hI st hst hst4 (xs (4 * j + 1)) (xs (4 * j + 2)))) rfl rfl rfl rfl rfl ?_
  refine l_same (tgt := 850) C dL_law_236 rfl hEq ?_
  exact next _ _ _ _ _ hZ2 (by omega)
set_option maxRecDepth 100000 in
set_option maxHeartbeats 4000000 in
theorem lc_3 {g : mG} {p : Program} {l : Launch} {e : Env} {s : State} {m : MethodId} {below : List Frame} {meth : Method} {c : Code} {Q : State → Prop} {b0 L0 b : Nat} {xs : Nat → Int32} {v w : mV} {N st B j : Nat} (C : cL g p s m c b0 L0 b xs) (hL : L0 ≤ 2048) (hj : 4 * j + 3 < L0) (hZ : ZR v w N st B) (hB : B ≤ 50000) (next : ∀ (v2 w2 : mV) (N2 st2 B2 : Nat), ZR v2 w2 N2 st2 B2 → B2 ≤ B + 80 → WL g p l e s m below meth c Q b0 b v2 w2 850 [some (.ref b0), some (.ref (b + 0)), some (.ref (b + 328 + 0)), some (.int (nI (4 * j)))] []) : WL g p l e s m below meth c Q b0 b v w 241 [some (.ref b0), some (.ref (b + 0)), some (.ref (b + 328 + 0)), some (.int (nI (4 * j)))] [] := by
  obtain ⟨hR, hV, hc, hN, hN80, hst, hst4⟩ := zr_facts hZ
  have hI := hV.MI
  obtain ⟨T, hT, hMT⟩ := inv_T hV
  obtain ⟨hEq, st2, hZ2⟩ := z_leave hZ (xs (4 * j + 1)) (xs (4 * j + 2))
  refine l_aload_n C dL_law_241 rfl ?_
  refine l_aload_n C dL_law_242 rfl ?_
  refine l_iload_n C dL_law_243 rfl ?_
  refine l_iconst C dL_law_244 ic_1 ?_
  refine l_iadd C dL_law_245 ?_
  refine l_sld C hL (j := 4 * j + 1) dL_law_246 (na_add rfl kn_1) (by omega) ?_
  refine l_aload_n C dL_law_247 rfl ?_
  refine l_iload_n C dL_law_248 rfl ?_
  refine l_iconst C dL_law_249 ic_2 ?_
  refine l_iadd C dL_law_250 ?_
  refine l_sld C hL (j := 4 * j + 2) dL_law_251 (na_add rfl kn_2) (by omega) ?_
  refine l_callC C (as := [.int (xs (4 * j + 1)), .int (xs (4 * j + 2))]) (nas := 2) kw_13_17 kw_13_18 kw_13_19 kw_1_2 kw_13_20 ⟨by decide +kernel, by decide +kernel⟩ (by decide +kernel) rfl ⟨rfl, rfl⟩ dL_law_252 (c_X10_leave isZ_C hc (xs (4 * j + 1)) (xs (4 * j + 2))) rfl rfl rfl rfl rfl ?_
  refine l_aload_n C dL_law_255 rfl ?_
  refine l_aload_n C dL_law_256 rfl ?_
  refine l_iload_n C dL_law_257 rfl ?_
  refine l_iconst C dL_law_258 ic_1 ?_
  refine l_iadd C dL_law_259 ?_
  refine l_sld C hL (j := 4 * j + 1) dL_law_260 (na_add rfl kn_1) (by omega) ?_
  refine l_aload_n C dL_law_261 rfl ?_
  refine l_iload_n C dL_law_262 rfl ?_
  refine l_iconst C dL_law_263 ic_2 ?_
  refine l_iadd C dL_law_264 ?_
  refine l_sld C hL (j := 4 * j + 2) dL_law_265 (na_add rfl kn_2) (by omega) ?_
  refine l_callM C (as := [.int (xs (4 * j + 1)), .int (xs (4 * j + 2))]) (nas := 2) kw_14_5 kw_14_6 kw_14_7 kw_1_5 kw_14_8 ⟨by decide +kernel, by decide +kernel⟩ (by decide +kernel) rfl ⟨rfl, rfl⟩ dL_law_266 (ct_sv (c_X11_leave (v := w) (σ := w 1) isM_M hI st hst hst4 (xs (4 * j + 1)) (xs (4 * j + 2)))) rfl rfl rfl rfl rfl ?_
  refine l_same (tgt := 850) C dL_law_269 rfl hEq ?_
  exact next _ _ _ _ _ hZ2 (by omega)
set_option maxRecDepth 100000 in
set_option maxHeartbeats 4000000 in
theorem lc_4 {g : mG} {p : Program} {l : Launch} {e : Env} {s : State} {m : MethodId} {below : List Frame} {meth : Method} {c : Code} {Q : State → Prop} {b0 L0 b : Nat} {xs : Nat → Int32} {v w : mV} {N st B j : Nat} (C : cL g p s m c b0 L0 b xs) (hL : L0 ≤ 2048) (hj : 4 * j + 3 < L0) (hZ : ZR v w N st B) (hB : B ≤ 50000) (next : ∀ (v2 w2 : mV) (N2 st2 B2 : Nat), ZR v2 w2 N2 st2 B2 → B2 ≤ B + 80 → WL g p l e s m below meth c Q b0 b v2 w2 850 [some (.ref b0), some (.ref (b + 0)), some (.ref (b + 328 + 0)), some (.int (nI (4 * j)))] []) : WL g p l e s m below meth c Q b0 b v w 274 [some (.ref b0), some (.ref (b + 0)), some (.ref (b + 328 + 0)), some (.int (nI (4 * j)))] [] := by
  obtain ⟨hR, hV, hc, hN, hN80, hst, hst4⟩ := zr_facts hZ
  have hI := hV.MI
  obtain ⟨T, hT, hMT⟩ := inv_T hV
  obtain ⟨hEq, st2, hZ2⟩ := z_quiet hZ (xs (4 * j + 1)) (xs (4 * j + 2)) (xs (4 * j + 3))
  refine l_aload_n C dL_law_274 rfl ?_
  refine l_aload_n C dL_law_275 rfl ?_
  refine l_iload_n C dL_law_276 rfl ?_
  refine l_iconst C dL_law_277 ic_1 ?_
  refine l_iadd C dL_law_278 ?_
  refine l_sld C hL (j := 4 * j + 1) dL_law_279 (na_add rfl kn_1) (by omega) ?_
  refine l_aload_n C dL_law_280 rfl ?_
  refine l_iload_n C dL_law_281 rfl ?_
  refine l_iconst C dL_law_282 ic_2 ?_
  refine l_iadd C dL_law_283 ?_
  refine l_sld C hL (j := 4 * j + 2) dL_law_284 (na_add rfl kn_2) (by omega) ?_
  refine l_aload_n C dL_law_285 rfl ?_
  refine l_iload_n C dL_law_286 rfl ?_
  refine l_iconst C dL_law_287 ic_3 ?_
  refine l_iadd C dL_law_288 ?_
  refine l_sld C hL (j := 4 * j + 3) dL_law_289 (na_add rfl kn_3) (by omega) ?_
  refine l_callC C (as := [.int (xs (4 * j + 1)), .int (xs (4 * j + 2)), .int (xs (4 * j + 3))]) (nas := 3) kw_14_13 kw_14_14 kw_14_15 kw_1_2 kw_14_16 ⟨by decide +kernel, by decide +kernel⟩ (by decide +kernel) rfl ⟨rfl, rfl⟩ dL_law_290 (c_X10_quiet isZ_C hc (xs (4 * j + 1)) (xs (4 * j + 2)) (xs (4 * j + 3))) rfl rfl rfl rfl rfl ?_
  refine l_aload_n C dL_law_293 rfl ?_
  refine l_aload_n C dL_law_294 rfl ?_
  refine l_iload_n C dL_law_295 rfl ?_
  refine l_iconst C dL_law_296 ic_1 ?_
  refine l_iadd C dL_law_297 ?_
  refine l_sld C hL (j := 4 * j + 1) dL_law_298 (na_add rfl kn_1) (by omega) ?_
  refine l_aload_n C dL_law_299 rfl ?_
  refine l_iload_n C dL_law_300 rfl ?_
  refine l_iconst C dL_law_301 ic_2 ?_
  refine l_iadd C dL_law_302 ?_
  refine l_sld C hL (j := 4 * j + 2) dL_law_303 (na_add rfl kn_2) (by omega) ?_
  refine l_aload_n C dL_law_304 rfl ?_
  refine l_iload_n C dL_law_305 rfl ?_
  refine l_iconst C dL_law_306 ic_3 ?_
  refine l_iadd C dL_law_307 ?_
  refine l_sld C hL (j := 4 * j + 3) dL_law_308 (na_add rfl kn_3) (by omega) ?_
  refine l_callM C (as := [.int (xs (4 * j + 1)), .int (xs (4 * j + 2)), .int (xs (4 * j + 3))]) (nas := 3) kw_15_3 kw_15_4 kw_15_5 kw_1_5 kw_15_6 ⟨by decide +kernel, by decide +kernel⟩ (by decide +kernel) rfl ⟨rfl, rfl⟩ dL_law_309 (ct_sv (c_X11_quiet (v := w) (σ := w 1) isM_M hI st hst hst4 (xs (4 * j + 1)) (xs (4 * j + 2)) (xs (4 * j + 3)))) rfl rfl rfl rfl rfl ?_
  refine l_same (tgt := 850) C dL_law_312 rfl hEq ?_
  exact next _ _ _ _ _ hZ2 (by omega)
set_option maxRecDepth 100000 in
set_option maxHeartbeats 4000000 in
theorem lc_5 {g : mG} {p : Program} {l : Launch} {e : Env} {s : State} {m : MethodId} {below : List Frame} {meth : Method} {c : Code} {Q : State → Prop} {b0 L0 b : Nat} {xs : Nat → Int32} {v w : mV} {N st B j : Nat} (C : cL g p s m c b0 L0 b xs) (hL : L0 ≤ 2048) (hj : 4 * j + 3 < L0) (hZ : ZR v w N st B) (hB : B ≤ 50000) (next : ∀ (v2 w2 : mV) (N2 st2 B2 : Nat), ZR v2 w2 N2 st2 B2 → B2 ≤ B + 80 → WL g p l e s m below meth c Q b0 b v2 w2 850 [some (.ref b0), some (.ref (b + 0)), some (.ref (b + 328 + 0)), some (.int (nI (4 * j)))] []) : WL g p l e s m below meth c Q b0 b v w 317 [some (.ref b0), some (.ref (b + 0)), some (.ref (b + 328 + 0)), some (.int (nI (4 * j)))] [] := by
  obtain ⟨hR, hV, hc, hN, hN80, hst, hst4⟩ := zr_facts hZ
  have hI := hV.MI
  obtain ⟨T, hT, hMT⟩ := inv_T hV
  obtain ⟨hE1, hE2⟩ := zr_exc hZ
  obtain ⟨hEq, st2, hZ2⟩ := z_except hZ (xs (4 * j + 1)) (xs (4 * j + 2))
  refine l_aload_n C dL_law_317 rfl ?_
  refine l_aload_n C dL_law_318 rfl ?_
  refine l_iload_n C dL_law_319 rfl ?_
  refine l_iconst C dL_law_320 ic_1 ?_
  refine l_iadd C dL_law_321 ?_
  refine l_sld C hL (j := 4 * j + 1) dL_law_322 (na_add rfl kn_1) (by omega) ?_
  refine l_aload_n C dL_law_323 rfl ?_
  refine l_iload_n C dL_law_324 rfl ?_
  refine l_iconst C dL_law_325 ic_2 ?_
  refine l_iadd C dL_law_326 ?_
  refine l_sld C hL (j := 4 * j + 2) dL_law_327 (na_add rfl kn_2) (by omega) ?_
  refine l_callC C (as := [.int (xs (4 * j + 1)), .int (xs (4 * j + 2))]) (nas := 2) kw_15_11 kw_15_12 kw_15_13 kw_1_2 kw_15_14 ⟨by decide +kernel, by decide +kernel⟩ (by decide +kernel) rfl ⟨rfl, rfl⟩ dL_law_328 (c_X10_except isZ_C hc hE1 (xs (4 * j + 1)) (xs (4 * j + 2))) rfl rfl rfl rfl rfl ?_
  refine l_aload_n C dL_law_331 rfl ?_
  refine l_aload_n C dL_law_332 rfl ?_
  refine l_iload_n C dL_law_333 rfl ?_
  refine l_iconst C dL_law_334 ic_1 ?_
  refine l_iadd C dL_law_335 ?_
  refine l_sld C hL (j := 4 * j + 1) dL_law_336 (na_add rfl kn_1) (by omega) ?_
  refine l_aload_n C dL_law_337 rfl ?_
  refine l_iload_n C dL_law_338 rfl ?_
  refine l_iconst C dL_law_339 ic_2 ?_
  refine l_iadd C dL_law_340 ?_
  refine l_sld C hL (j := 4 * j + 2) dL_law_341 (na_add rfl kn_2) (by omega) ?_
  refine l_callM C (as := [.int (xs (4 * j + 1)), .int (xs (4 * j + 2))]) (nas := 2) kw_16_3 kw_16_4 kw_16_5 kw_1_5 kw_16_6 ⟨by decide +kernel, by decide +kernel⟩ (by decide +kernel) rfl ⟨rfl, rfl⟩ dL_law_342 (ct_sv (c_X11_except (v := w) (σ := w 1) isM_M hI hE2 st hst hst4 (xs (4 * j + 1)) (xs (4 * j + 2)))) rfl rfl rfl rfl rfl ?_
  refine l_same (tgt := 850) C dL_law_345 rfl hEq ?_
  exact next _ _ _ _ _ hZ2 (by omega)
set_option maxRecDepth 100000 in
set_option maxHeartbeats 4000000 in
theorem lc_6 {g : mG} {p : Program} {l : Launch} {e : Env} {s : State} {m : MethodId} {below : List Frame} {meth : Method} {c : Code} {Q : State → Prop} {b0 L0 b : Nat} {xs : Nat → Int32} {v w : mV} {N st B j : Nat} (C : cL g p s m c b0 L0 b xs) (hL : L0 ≤ 2048) (hj : 4 * j + 3 < L0) (hZ : ZR v w N st B) (hB : B ≤ 50000) (next : ∀ (v2 w2 : mV) (N2 st2 B2 : Nat), ZR v2 w2 N2 st2 B2 → B2 ≤ B + 80 → WL g p l e s m below meth c Q b0 b v2 w2 850 [some (.ref b0), some (.ref (b + 0)), some (.ref (b + 328 + 0)), some (.int (nI (4 * j)))] []) : WL g p l e s m below meth c Q b0 b v w 350 [some (.ref b0), some (.ref (b + 0)), some (.ref (b + 328 + 0)), some (.int (nI (4 * j)))] [] := by
  obtain ⟨hR, hV, hc, hN, hN80, hst, hst4⟩ := zr_facts hZ
  have hI := hV.MI
  obtain ⟨T, hT, hMT⟩ := inv_T hV
  obtain ⟨hEq, st2, hZ2⟩ := z_override hZ (xs (4 * j + 1)) (xs (4 * j + 2)) (xs (4 * j + 3))
  refine l_aload_n C dL_law_350 rfl ?_
  refine l_aload_n C dL_law_351 rfl ?_
  refine l_iload_n C dL_law_352 rfl ?_
  refine l_iconst C dL_law_353 ic_1 ?_
  refine l_iadd C dL_law_354 ?_
  refine l_sld C hL (j := 4 * j + 1) dL_law_355 (na_add rfl kn_1) (by omega) ?_
  refine l_aload_n C dL_law_356 rfl ?_
  refine l_iload_n C dL_law_357 rfl ?_
  refine l_iconst C dL_law_358 ic_2 ?_
  refine l_iadd C dL_law_359 ?_
  refine l_sld C hL (j := 4 * j + 2) dL_law_360 (na_add rfl kn_2) (by omega) ?_
  refine l_aload_n C dL_law_361 rfl ?_
  refine l_iload_n C dL_law_362 rfl ?_
  refine l_iconst C dL_law_363 ic_3 ?_
  refine l_iadd C dL_law_364 ?_
  refine l_sld C hL (j := 4 * j + 3) dL_law_365 (na_add rfl kn_3) (by omega) ?_
  refine l_callC C (as := [.int (xs (4 * j + 1)), .int (xs (4 * j + 2)), .int (xs (4 * j + 3))]) (nas := 3) kw_16_18 kw_16_19 kw_16_20 kw_1_2 kw_16_21 ⟨by decide +kernel, by decide +kernel⟩ (by decide +kernel) rfl ⟨rfl, rfl⟩ dL_law_366 (c_X10_override isZ_C hc (xs (4 * j + 1)) (xs (4 * j + 2)) (xs (4 * j + 3))) rfl rfl rfl rfl rfl ?_
  refine l_aload_n C dL_law_369 rfl ?_
  refine l_aload_n C dL_law_370 rfl ?_
  refine l_iload_n C dL_law_371 rfl ?_
  refine l_iconst C dL_law_372 ic_1 ?_
  refine l_iadd C dL_law_373 ?_
  refine l_sld C hL (j := 4 * j + 1) dL_law_374 (na_add rfl kn_1) (by omega) ?_
  refine l_aload_n C dL_law_375 rfl ?_
  refine l_iload_n C dL_law_376 rfl ?_
  refine l_iconst C dL_law_377 ic_2 ?_
  refine l_iadd C dL_law_378 ?_
  refine l_sld C hL (j := 4 * j + 2) dL_law_379 (na_add rfl kn_2) (by omega) ?_
  refine l_aload_n C dL_law_380 rfl ?_
  refine l_iload_n C dL_law_381 rfl ?_
  refine l_iconst C dL_law_382 ic_3 ?_
  refine l_iadd C dL_law_383 ?_
  refine l_sld C hL (j := 4 * j + 3) dL_law_384 (na_add rfl kn_3) (by omega) ?_
  refine l_callM C (as := [.int (xs (4 * j + 1)), .int (xs (4 * j + 2)), .int (xs (4 * j + 3))]) (nas := 3) kw_17_19 kw_17_20 kw_17_21 kw_1_5 kw_17_22 ⟨by decide +kernel, by decide +kernel⟩ (by decide +kernel) rfl ⟨rfl, rfl⟩ dL_law_385 (ct_sv (c_X11_override (v := w) (σ := w 1) isM_M hI st hst hst4 (xs (4 * j + 1)) (xs (4 * j + 2)) (xs (4 * j + 3)))) rfl rfl rfl rfl rfl ?_
  refine l_same (tgt := 850) C dL_law_388 rfl hEq ?_
  exact next _ _ _ _ _ hZ2 (by omega)
set_option maxRecDepth 100000 in
set_option maxHeartbeats 4000000 in
theorem lc_7 {g : mG} {p : Program} {l : Launch} {e : Env} {s : State} {m : MethodId} {below : List Frame} {meth : Method} {c : Code} {Q : State → Prop} {b0 L0 b : Nat} {xs : Nat → Int32} {v w : mV} {N st B j : Nat} (C : cL g p s m c b0 L0 b xs) (hL : L0 ≤ 2048) (hj : 4 * j + 3 < L0) (hZ : ZR v w N st B) (hB : B ≤ 50000) (next : ∀ (v2 w2 : mV) (N2 st2 B2 : Nat), ZR v2 w2 N2 st2 B2 → B2 ≤ B + 80 → WL g p l e s m below meth c Q b0 b v2 w2 850 [some (.ref b0), some (.ref (b + 0)), some (.ref (b + 328 + 0)), some (.int (nI (4 * j)))] []) : WL g p l e s m below meth c Q b0 b v w 393 [some (.ref b0), some (.ref (b + 0)), some (.ref (b + 328 + 0)), some (.int (nI (4 * j)))] [] := by
  obtain ⟨hR, hV, hc, hN, hN80, hst, hst4⟩ := zr_facts hZ
  have hI := hV.MI
  obtain ⟨T, hT, hMT⟩ := inv_T hV
  have hEq := q_rotaAt hR hV (xs (4 * j + 1)) (xs (4 * j + 2))
  refine l_aload_n C dL_law_393 rfl ?_
  refine l_aload_n C dL_law_394 rfl ?_
  refine l_iload_n C dL_law_395 rfl ?_
  refine l_iconst C dL_law_396 ic_1 ?_
  refine l_iadd C dL_law_397 ?_
  refine l_sld C hL (j := 4 * j + 1) dL_law_398 (na_add rfl kn_1) (by omega) ?_
  refine l_aload_n C dL_law_399 rfl ?_
  refine l_iload_n C dL_law_400 rfl ?_
  refine l_iconst C dL_law_401 ic_2 ?_
  refine l_iadd C dL_law_402 ?_
  refine l_sld C hL (j := 4 * j + 2) dL_law_403 (na_add rfl kn_2) (by omega) ?_
  refine l_callC C (as := [.int (xs (4 * j + 1)), .int (xs (4 * j + 2))]) (nas := 2) kw_18_11 kw_18_12 kw_18_13 kw_1_2 kw_18_14 ⟨by decide +kernel, by decide +kernel⟩ (by decide +kernel) rfl ⟨rfl, rfl⟩ dL_law_404 (c_X10_rotaAt isZ_C hc (xs (4 * j + 1)) (xs (4 * j + 2))) rfl rfl rfl rfl rfl ?_
  refine l_aload_n C dL_law_407 rfl ?_
  refine l_aload_n C dL_law_408 rfl ?_
  refine l_iload_n C dL_law_409 rfl ?_
  refine l_iconst C dL_law_410 ic_1 ?_
  refine l_iadd C dL_law_411 ?_
  refine l_sld C hL (j := 4 * j + 1) dL_law_412 (na_add rfl kn_1) (by omega) ?_
  refine l_aload_n C dL_law_413 rfl ?_
  refine l_iload_n C dL_law_414 rfl ?_
  refine l_iconst C dL_law_415 ic_2 ?_
  refine l_iadd C dL_law_416 ?_
  refine l_sld C hL (j := 4 * j + 2) dL_law_417 (na_add rfl kn_2) (by omega) ?_
  refine l_callM C (as := [.int (xs (4 * j + 1)), .int (xs (4 * j + 2))]) (nas := 2) kw_18_21 kw_18_22 kw_18_23 kw_1_5 kw_19_0 ⟨by decide +kernel, by decide +kernel⟩ (by decide +kernel) rfl ⟨rfl, rfl⟩ dL_law_418 (ct_sv (c_X11_rotaAt (v := w) (σ := w 1) isM_M hI (xs (4 * j + 1)) (xs (4 * j + 2)))) rfl rfl rfl rfl rfl ?_
  refine l_same (tgt := 850) C dL_law_421 rfl hEq ?_
  exact next _ _ _ _ _ (zr_sv hZ) (by omega)
set_option maxRecDepth 100000 in
set_option maxHeartbeats 4000000 in
theorem lc_8 {g : mG} {p : Program} {l : Launch} {e : Env} {s : State} {m : MethodId} {below : List Frame} {meth : Method} {c : Code} {Q : State → Prop} {b0 L0 b : Nat} {xs : Nat → Int32} {v w : mV} {N st B j : Nat} (C : cL g p s m c b0 L0 b xs) (hL : L0 ≤ 2048) (hj : 4 * j + 3 < L0) (hZ : ZR v w N st B) (hB : B ≤ 50000) (next : ∀ (v2 w2 : mV) (N2 st2 B2 : Nat), ZR v2 w2 N2 st2 B2 → B2 ≤ B + 80 → WL g p l e s m below meth c Q b0 b v2 w2 850 [some (.ref b0), some (.ref (b + 0)), some (.ref (b + 328 + 0)), some (.int (nI (4 * j)))] []) : WL g p l e s m below meth c Q b0 b v w 426 [some (.ref b0), some (.ref (b + 0)), some (.ref (b + 328 + 0)), some (.int (nI (4 * j)))] [] := by
  obtain ⟨hR, hV, hc, hN, hN80, hst, hst4⟩ := zr_facts hZ
  have hI := hV.MI
  obtain ⟨T, hT, hMT⟩ := inv_T hV
  have hEq := q_personOf hR hV (xs (4 * j + 1)) (xs (4 * j + 2))
  refine l_aload_n C dL_law_426 rfl ?_
  refine l_aload_n C dL_law_427 rfl ?_
  refine l_iload_n C dL_law_428 rfl ?_
  refine l_iconst C dL_law_429 ic_1 ?_
  refine l_iadd C dL_law_430 ?_
  refine l_sld C hL (j := 4 * j + 1) dL_law_431 (na_add rfl kn_1) (by omega) ?_
  refine l_aload_n C dL_law_432 rfl ?_
  refine l_iload_n C dL_law_433 rfl ?_
  refine l_iconst C dL_law_434 ic_2 ?_
  refine l_iadd C dL_law_435 ?_
  refine l_sld C hL (j := 4 * j + 2) dL_law_436 (na_add rfl kn_2) (by omega) ?_
  refine l_callC C (as := [.int (xs (4 * j + 1)), .int (xs (4 * j + 2))]) (nas := 2) kw_19_1 kw_19_2 kw_19_3 kw_1_2 kw_19_4 ⟨by decide +kernel, by decide +kernel⟩ (by decide +kernel) rfl ⟨rfl, rfl⟩ dL_law_437 (c_X10_personOf isZ_C hc (xs (4 * j + 1)) (xs (4 * j + 2))) rfl rfl rfl rfl rfl ?_
  refine l_aload_n C dL_law_440 rfl ?_
  refine l_aload_n C dL_law_441 rfl ?_
  refine l_iload_n C dL_law_442 rfl ?_
  refine l_iconst C dL_law_443 ic_1 ?_
  refine l_iadd C dL_law_444 ?_
  refine l_sld C hL (j := 4 * j + 1) dL_law_445 (na_add rfl kn_1) (by omega) ?_
  refine l_aload_n C dL_law_446 rfl ?_
  refine l_iload_n C dL_law_447 rfl ?_
  refine l_iconst C dL_law_448 ic_2 ?_
  refine l_iadd C dL_law_449 ?_
  refine l_sld C hL (j := 4 * j + 2) dL_law_450 (na_add rfl kn_2) (by omega) ?_
  refine l_callM C (as := [.int (xs (4 * j + 1)), .int (xs (4 * j + 2))]) (nas := 2) kw_20_7 kw_20_8 kw_20_9 kw_1_5 kw_20_10 ⟨by decide +kernel, by decide +kernel⟩ (by decide +kernel) rfl ⟨rfl, rfl⟩ dL_law_451 (ct_sv (c_X11_personOf (v := w) (σ := w 1) isM_M hI (xs (4 * j + 1)) (xs (4 * j + 2)))) rfl rfl rfl rfl rfl ?_
  refine l_same (tgt := 850) C dL_law_454 rfl hEq ?_
  exact next _ _ _ _ _ (zr_sv hZ) (by omega)
set_option maxRecDepth 100000 in
set_option maxHeartbeats 4000000 in
theorem lc_9 {g : mG} {p : Program} {l : Launch} {e : Env} {s : State} {m : MethodId} {below : List Frame} {meth : Method} {c : Code} {Q : State → Prop} {b0 L0 b : Nat} {xs : Nat → Int32} {v w : mV} {N st B j : Nat} (C : cL g p s m c b0 L0 b xs) (hL : L0 ≤ 2048) (hj : 4 * j + 3 < L0) (hZ : ZR v w N st B) (hB : B ≤ 50000) (next : ∀ (v2 w2 : mV) (N2 st2 B2 : Nat), ZR v2 w2 N2 st2 B2 → B2 ≤ B + 80 → WL g p l e s m below meth c Q b0 b v2 w2 850 [some (.ref b0), some (.ref (b + 0)), some (.ref (b + 328 + 0)), some (.int (nI (4 * j)))] []) : WL g p l e s m below meth c Q b0 b v w 459 [some (.ref b0), some (.ref (b + 0)), some (.ref (b + 328 + 0)), some (.int (nI (4 * j)))] [] := by
  obtain ⟨hR, hV, hc, hN, hN80, hst, hst4⟩ := zr_facts hZ
  have hI := hV.MI
  obtain ⟨T, hT, hMT⟩ := inv_T hV
  obtain ⟨hEq, st2, hZ2⟩ := z_alert hZ (xs (4 * j + 1)) (xs (4 * j + 2))
  refine l_aload_n C dL_law_459 rfl ?_
  refine l_aload_n C dL_law_460 rfl ?_
  refine l_iload_n C dL_law_461 rfl ?_
  refine l_iconst C dL_law_462 ic_1 ?_
  refine l_iadd C dL_law_463 ?_
  refine l_sld C hL (j := 4 * j + 1) dL_law_464 (na_add rfl kn_1) (by omega) ?_
  refine l_aload_n C dL_law_465 rfl ?_
  refine l_iload_n C dL_law_466 rfl ?_
  refine l_iconst C dL_law_467 ic_2 ?_
  refine l_iadd C dL_law_468 ?_
  refine l_sld C hL (j := 4 * j + 2) dL_law_469 (na_add rfl kn_2) (by omega) ?_
  refine l_callC C (as := [.int (xs (4 * j + 1)), .int (xs (4 * j + 2))]) (nas := 2) kw_21_9 kw_21_10 kw_21_11 kw_1_2 kw_21_12 ⟨by decide +kernel, by decide +kernel⟩ (by decide +kernel) rfl ⟨rfl, rfl⟩ dL_law_470 (c_X10_alert isZ_C hc (xs (4 * j + 1)) (xs (4 * j + 2))) rfl rfl rfl rfl rfl ?_
  refine l_aload_n C dL_law_473 rfl ?_
  refine l_aload_n C dL_law_474 rfl ?_
  refine l_iload_n C dL_law_475 rfl ?_
  refine l_iconst C dL_law_476 ic_1 ?_
  refine l_iadd C dL_law_477 ?_
  refine l_sld C hL (j := 4 * j + 1) dL_law_478 (na_add rfl kn_1) (by omega) ?_
  refine l_aload_n C dL_law_479 rfl ?_
  refine l_iload_n C dL_law_480 rfl ?_
  refine l_iconst C dL_law_481 ic_2 ?_
  refine l_iadd C dL_law_482 ?_
  refine l_sld C hL (j := 4 * j + 2) dL_law_483 (na_add rfl kn_2) (by omega) ?_
  refine l_callM C (as := [.int (xs (4 * j + 1)), .int (xs (4 * j + 2))]) (nas := 2) kw_23_18 kw_23_19 kw_23_20 kw_1_5 kw_23_21 ⟨by decide +kernel, by decide +kernel⟩ (by decide +kernel) rfl ⟨rfl, rfl⟩ dL_law_484 (ct_sv (c_X11_alert (v := w) (σ := w 1) isM_M hI st hst hst4 (xs (4 * j + 1)) (xs (4 * j + 2)))) rfl rfl rfl rfl rfl ?_
  refine l_same (tgt := 850) C dL_law_487 rfl hEq ?_
  exact next _ _ _ _ _ hZ2 (by omega)
set_option maxRecDepth 100000 in
set_option maxHeartbeats 4000000 in
theorem lc_10 {g : mG} {p : Program} {l : Launch} {e : Env} {s : State} {m : MethodId} {below : List Frame} {meth : Method} {c : Code} {Q : State → Prop} {b0 L0 b : Nat} {xs : Nat → Int32} {v w : mV} {N st B j : Nat} (C : cL g p s m c b0 L0 b xs) (hL : L0 ≤ 2048) (hj : 4 * j + 3 < L0) (hZ : ZR v w N st B) (hB : B ≤ 50000) (next : ∀ (v2 w2 : mV) (N2 st2 B2 : Nat), ZR v2 w2 N2 st2 B2 → B2 ≤ B + 80 → WL g p l e s m below meth c Q b0 b v2 w2 850 [some (.ref b0), some (.ref (b + 0)), some (.ref (b + 328 + 0)), some (.int (nI (4 * j)))] []) : WL g p l e s m below meth c Q b0 b v w 492 [some (.ref b0), some (.ref (b + 0)), some (.ref (b + 328 + 0)), some (.int (nI (4 * j)))] [] := by
  obtain ⟨hR, hV, hc, hN, hN80, hst, hst4⟩ := zr_facts hZ
  have hI := hV.MI
  obtain ⟨T, hT, hMT⟩ := inv_T hV
  obtain ⟨hEq, st2, hZ2⟩ := z_ack hZ (xs (4 * j + 1))
  refine l_aload_n C dL_law_492 rfl ?_
  refine l_aload_n C dL_law_493 rfl ?_
  refine l_iload_n C dL_law_494 rfl ?_
  refine l_iconst C dL_law_495 ic_1 ?_
  refine l_iadd C dL_law_496 ?_
  refine l_sld C hL (j := 4 * j + 1) dL_law_497 (na_add rfl kn_1) (by omega) ?_
  refine l_callC C (as := [.int (xs (4 * j + 1))]) (nas := 1) kw_25_10 kw_25_11 kw_25_12 kw_1_2 kw_25_13 ⟨by decide +kernel, by decide +kernel⟩ (by decide +kernel) rfl ⟨rfl, rfl⟩ dL_law_498 (c_X10_acknowledge isZ_C hc (xs (4 * j + 1))) rfl rfl rfl rfl rfl ?_
  refine l_aload_n C dL_law_501 rfl ?_
  refine l_aload_n C dL_law_502 rfl ?_
  refine l_iload_n C dL_law_503 rfl ?_
  refine l_iconst C dL_law_504 ic_1 ?_
  refine l_iadd C dL_law_505 ?_
  refine l_sld C hL (j := 4 * j + 1) dL_law_506 (na_add rfl kn_1) (by omega) ?_
  refine l_callM C (as := [.int (xs (4 * j + 1))]) (nas := 1) kw_26_0 kw_26_1 kw_26_2 kw_1_5 kw_26_3 ⟨by decide +kernel, by decide +kernel⟩ (by decide +kernel) rfl ⟨rfl, rfl⟩ dL_law_507 (ct_sv (c_X11_acknowledge (v := w) (σ := w 1) isM_M hI st hst hst4 (xs (4 * j + 1)))) rfl rfl rfl rfl rfl ?_
  refine l_same (tgt := 850) C dL_law_510 rfl hEq ?_
  exact next _ _ _ _ _ hZ2 (by omega)
set_option maxRecDepth 100000 in
set_option maxHeartbeats 4000000 in
theorem lc_11 {g : mG} {p : Program} {l : Launch} {e : Env} {s : State} {m : MethodId} {below : List Frame} {meth : Method} {c : Code} {Q : State → Prop} {b0 L0 b : Nat} {xs : Nat → Int32} {v w : mV} {N st B j : Nat} (C : cL g p s m c b0 L0 b xs) (hL : L0 ≤ 2048) (hj : 4 * j + 3 < L0) (hZ : ZR v w N st B) (hB : B ≤ 50000) (next : ∀ (v2 w2 : mV) (N2 st2 B2 : Nat), ZR v2 w2 N2 st2 B2 → B2 ≤ B + 80 → WL g p l e s m below meth c Q b0 b v2 w2 850 [some (.ref b0), some (.ref (b + 0)), some (.ref (b + 328 + 0)), some (.int (nI (4 * j)))] []) : WL g p l e s m below meth c Q b0 b v w 515 [some (.ref b0), some (.ref (b + 0)), some (.ref (b + 328 + 0)), some (.int (nI (4 * j)))] [] := by
  obtain ⟨hR, hV, hc, hN, hN80, hst, hst4⟩ := zr_facts hZ
  have hI := hV.MI
  obtain ⟨T, hT, hMT⟩ := inv_T hV
  obtain ⟨hEq, st2, hZ2⟩ := z_close hZ (xs (4 * j + 1))
  refine l_aload_n C dL_law_515 rfl ?_
  refine l_aload_n C dL_law_516 rfl ?_
  refine l_iload_n C dL_law_517 rfl ?_
  refine l_iconst C dL_law_518 ic_1 ?_
  refine l_iadd C dL_law_519 ?_
  refine l_sld C hL (j := 4 * j + 1) dL_law_520 (na_add rfl kn_1) (by omega) ?_
  refine l_callC C (as := [.int (xs (4 * j + 1))]) (nas := 1) kw_26_8 kw_26_9 kw_26_10 kw_1_2 kw_26_11 ⟨by decide +kernel, by decide +kernel⟩ (by decide +kernel) rfl ⟨rfl, rfl⟩ dL_law_521 (c_X10_resolve isZ_C hc (xs (4 * j + 1))) rfl rfl rfl rfl rfl ?_
  refine l_aload_n C dL_law_524 rfl ?_
  refine l_aload_n C dL_law_525 rfl ?_
  refine l_iload_n C dL_law_526 rfl ?_
  refine l_iconst C dL_law_527 ic_1 ?_
  refine l_iadd C dL_law_528 ?_
  refine l_sld C hL (j := 4 * j + 1) dL_law_529 (na_add rfl kn_1) (by omega) ?_
  refine l_callM C (as := [.int (xs (4 * j + 1))]) (nas := 1) kw_26_19 kw_26_20 kw_26_21 kw_1_5 kw_26_22 ⟨by decide +kernel, by decide +kernel⟩ (by decide +kernel) rfl ⟨rfl, rfl⟩ dL_law_530 (ct_sv (c_X11_resolve (v := w) (σ := w 1) isM_M hI st hst hst4 (xs (4 * j + 1)))) rfl rfl rfl rfl rfl ?_
  refine l_same (tgt := 850) C dL_law_533 rfl hEq ?_
  exact next _ _ _ _ _ hZ2 (by omega)
set_option maxRecDepth 100000 in
set_option maxHeartbeats 4000000 in
theorem lc_12 {g : mG} {p : Program} {l : Launch} {e : Env} {s : State} {m : MethodId} {below : List Frame} {meth : Method} {c : Code} {Q : State → Prop} {b0 L0 b : Nat} {xs : Nat → Int32} {v w : mV} {N st B j : Nat} (C : cL g p s m c b0 L0 b xs) (hL : L0 ≤ 2048) (hj : 4 * j + 3 < L0) (hZ : ZR v w N st B) (hB : B ≤ 50000) (next : ∀ (v2 w2 : mV) (N2 st2 B2 : Nat), ZR v2 w2 N2 st2 B2 → B2 ≤ B + 80 → WL g p l e s m below meth c Q b0 b v2 w2 850 [some (.ref b0), some (.ref (b + 0)), some (.ref (b + 328 + 0)), some (.int (nI (4 * j)))] []) : WL g p l e s m below meth c Q b0 b v w 538 [some (.ref b0), some (.ref (b + 0)), some (.ref (b + 328 + 0)), some (.int (nI (4 * j)))] [] := by
  obtain ⟨hR, hV, hc, hN, hN80, hst, hst4⟩ := zr_facts hZ
  have hI := hV.MI
  obtain ⟨T, hT, hMT⟩ := inv_T hV
  obtain ⟨hEq, st2, hZ2⟩ := z_pass hZ (xs (4 * j + 1))
  refine l_aload_n C dL_law_538 rfl ?_
  refine l_aload_n C dL_law_539 rfl ?_
  refine l_iload_n C dL_law_540 rfl ?_
  refine l_iconst C dL_law_541 ic_1 ?_
  refine l_iadd C dL_law_542 ?_
  refine l_sld C hL (j := 4 * j + 1) dL_law_543 (na_add rfl kn_1) (by omega) ?_
  refine l_callC C (as := [.int (xs (4 * j + 1))]) (nas := 1) kw_27_3 kw_27_4 kw_27_5 kw_1_2 kw_27_6 ⟨by decide +kernel, by decide +kernel⟩ (by decide +kernel) rfl ⟨rfl, rfl⟩ dL_law_544 (c_X10_pass isZ_C hc (xs (4 * j + 1))) rfl rfl rfl rfl rfl ?_
  refine l_aload_n C dL_law_547 rfl ?_
  refine l_aload_n C dL_law_548 rfl ?_
  refine l_iload_n C dL_law_549 rfl ?_
  refine l_iconst C dL_law_550 ic_1 ?_
  refine l_iadd C dL_law_551 ?_
  refine l_sld C hL (j := 4 * j + 1) dL_law_552 (na_add rfl kn_1) (by omega) ?_
  refine l_callM C (as := [.int (xs (4 * j + 1))]) (nas := 1) kw_27_22 kw_27_23 kw_28_0 kw_1_5 kw_28_1 ⟨by decide +kernel, by decide +kernel⟩ (by decide +kernel) rfl ⟨rfl, rfl⟩ dL_law_553 (ct_sv (c_X11_pass (v := w) (σ := w 1) isM_M T hMT hT st hst hst4 (xs (4 * j + 1)))) rfl rfl rfl rfl rfl ?_
  refine l_same (tgt := 850) C dL_law_556 rfl hEq ?_
  exact next _ _ _ _ _ hZ2 (by omega)
set_option maxRecDepth 100000 in
set_option maxHeartbeats 4000000 in
theorem lc_13 {g : mG} {p : Program} {l : Launch} {e : Env} {s : State} {m : MethodId} {below : List Frame} {meth : Method} {c : Code} {Q : State → Prop} {b0 L0 b : Nat} {xs : Nat → Int32} {v w : mV} {N st B j : Nat} (C : cL g p s m c b0 L0 b xs) (hL : L0 ≤ 2048) (hj : 4 * j + 3 < L0) (hZ : ZR v w N st B) (hB : B ≤ 50000) (next : ∀ (v2 w2 : mV) (N2 st2 B2 : Nat), ZR v2 w2 N2 st2 B2 → B2 ≤ B + 80 → WL g p l e s m below meth c Q b0 b v2 w2 850 [some (.ref b0), some (.ref (b + 0)), some (.ref (b + 328 + 0)), some (.int (nI (4 * j)))] []) : WL g p l e s m below meth c Q b0 b v w 561 [some (.ref b0), some (.ref (b + 0)), some (.ref (b + 328 + 0)), some (.int (nI (4 * j)))] [] := by
  obtain ⟨hR, hV, hc, hN, hN80, hst, hst4⟩ := zr_facts hZ
  have hI := hV.MI
  obtain ⟨T, hT, hMT⟩ := inv_T hV
  obtain ⟨hEq, st2, hZ2⟩ := z_set hZ (xs (4 * j + 1)) (xs (4 * j + 2))
  refine l_aload_n C dL_law_561 rfl ?_
  refine l_aload_n C dL_law_562 rfl ?_
  refine l_iload_n C dL_law_563 rfl ?_
  refine l_iconst C dL_law_564 ic_1 ?_
  refine l_iadd C dL_law_565 ?_
  refine l_sld C hL (j := 4 * j + 1) dL_law_566 (na_add rfl kn_1) (by omega) ?_
  refine l_aload_n C dL_law_567 rfl ?_
  refine l_iload_n C dL_law_568 rfl ?_
  refine l_iconst C dL_law_569 ic_2 ?_
  refine l_iadd C dL_law_570 ?_
  refine l_sld C hL (j := 4 * j + 2) dL_law_571 (na_add rfl kn_2) (by omega) ?_
  refine l_callC C (as := [.int (xs (4 * j + 1)), .int (xs (4 * j + 2))]) (nas := 2) kw_28_14 kw_28_15 kw_28_16 kw_1_2 kw_28_17 ⟨by decide +kernel, by decide +kernel⟩ (by decide +kernel) rfl ⟨rfl, rfl⟩ dL_law_572 (c_X10_set isZ_C hc (xs (4 * j + 1)) (xs (4 * j + 2))) rfl rfl rfl rfl rfl ?_
  refine l_aload_n C dL_law_575 rfl ?_
  refine l_aload_n C dL_law_576 rfl ?_
  refine l_iload_n C dL_law_577 rfl ?_
  refine l_iconst C dL_law_578 ic_1 ?_
  refine l_iadd C dL_law_579 ?_
  refine l_sld C hL (j := 4 * j + 1) dL_law_580 (na_add rfl kn_1) (by omega) ?_
  refine l_aload_n C dL_law_581 rfl ?_
  refine l_iload_n C dL_law_582 rfl ?_
  refine l_iconst C dL_law_583 ic_2 ?_
  refine l_iadd C dL_law_584 ?_
  refine l_sld C hL (j := 4 * j + 2) dL_law_585 (na_add rfl kn_2) (by omega) ?_
  refine l_callM C (as := [.int (xs (4 * j + 1)), .int (xs (4 * j + 2))]) (nas := 2) kw_28_22 kw_28_23 kw_29_0 kw_1_5 kw_29_1 ⟨by decide +kernel, by decide +kernel⟩ (by decide +kernel) rfl ⟨rfl, rfl⟩ dL_law_586 (ct_sv (c_X11_set (v := w) (σ := w 1) isM_M hI st hst hst4 (xs (4 * j + 1)) (xs (4 * j + 2)))) rfl rfl rfl rfl rfl ?_
  refine l_same (tgt := 850) C dL_law_589 rfl hEq ?_
  exact next _ _ _ _ _ hZ2 (by omega)
set_option maxRecDepth 100000 in
set_option maxHeartbeats 4000000 in
theorem lc_14 {g : mG} {p : Program} {l : Launch} {e : Env} {s : State} {m : MethodId} {below : List Frame} {meth : Method} {c : Code} {Q : State → Prop} {b0 L0 b : Nat} {xs : Nat → Int32} {v w : mV} {N st B j : Nat} (C : cL g p s m c b0 L0 b xs) (hL : L0 ≤ 2048) (hj : 4 * j + 3 < L0) (hZ : ZR v w N st B) (hB : B ≤ 50000) (next : ∀ (v2 w2 : mV) (N2 st2 B2 : Nat), ZR v2 w2 N2 st2 B2 → B2 ≤ B + 80 → WL g p l e s m below meth c Q b0 b v2 w2 850 [some (.ref b0), some (.ref (b + 0)), some (.ref (b + 328 + 0)), some (.int (nI (4 * j)))] []) : WL g p l e s m below meth c Q b0 b v w 594 [some (.ref b0), some (.ref (b + 0)), some (.ref (b + 328 + 0)), some (.int (nI (4 * j)))] [] := by
  obtain ⟨hR, hV, hc, hN, hN80, hst, hst4⟩ := zr_facts hZ
  have hI := hV.MI
  obtain ⟨T, hT, hMT⟩ := inv_T hV
  have hEq := q_incidentOf hR hV (xs (4 * j + 1)) (xs (4 * j + 2))
  refine l_aload_n C dL_law_594 rfl ?_
  refine l_aload_n C dL_law_595 rfl ?_
  refine l_iload_n C dL_law_596 rfl ?_
  refine l_iconst C dL_law_597 ic_1 ?_
  refine l_iadd C dL_law_598 ?_
  refine l_sld C hL (j := 4 * j + 1) dL_law_599 (na_add rfl kn_1) (by omega) ?_
  refine l_aload_n C dL_law_600 rfl ?_
  refine l_iload_n C dL_law_601 rfl ?_
  refine l_iconst C dL_law_602 ic_2 ?_
  refine l_iadd C dL_law_603 ?_
  refine l_sld C hL (j := 4 * j + 2) dL_law_604 (na_add rfl kn_2) (by omega) ?_
  refine l_callC C (as := [.int (xs (4 * j + 1)), .int (xs (4 * j + 2))]) (nas := 2) kw_29_6 kw_29_7 kw_29_8 kw_1_2 kw_29_9 ⟨by decide +kernel, by decide +kernel⟩ (by decide +kernel) rfl ⟨rfl, rfl⟩ dL_law_605 (c_X10_incidentOf isZ_C hc (xs (4 * j + 1)) (xs (4 * j + 2))) rfl rfl rfl rfl rfl ?_
  refine l_aload_n C dL_law_608 rfl ?_
  refine l_aload_n C dL_law_609 rfl ?_
  refine l_iload_n C dL_law_610 rfl ?_
  refine l_iconst C dL_law_611 ic_1 ?_
  refine l_iadd C dL_law_612 ?_
  refine l_sld C hL (j := 4 * j + 1) dL_law_613 (na_add rfl kn_1) (by omega) ?_
  refine l_aload_n C dL_law_614 rfl ?_
  refine l_iload_n C dL_law_615 rfl ?_
  refine l_iconst C dL_law_616 ic_2 ?_
  refine l_iadd C dL_law_617 ?_
  refine l_sld C hL (j := 4 * j + 2) dL_law_618 (na_add rfl kn_2) (by omega) ?_
  refine l_callM C (as := [.int (xs (4 * j + 1)), .int (xs (4 * j + 2))]) (nas := 2) kw_30_0 kw_30_1 kw_30_2 kw_1_5 kw_30_3 ⟨by decide +kernel, by decide +kernel⟩ (by decide +kernel) rfl ⟨rfl, rfl⟩ dL_law_619 (ct_sv (c_X11_incidentOf (v := w) (σ := w 1) isM_M hI (xs (4 * j + 1)) (xs (4 * j + 2)))) rfl rfl rfl rfl rfl ?_
  refine l_same (tgt := 850) C dL_law_622 rfl hEq ?_
  exact next _ _ _ _ _ (zr_sv hZ) (by omega)
set_option maxRecDepth 100000 in
set_option maxHeartbeats 4000000 in
theorem lc_15 {g : mG} {p : Program} {l : Launch} {e : Env} {s : State} {m : MethodId} {below : List Frame} {meth : Method} {c : Code} {Q : State → Prop} {b0 L0 b : Nat} {xs : Nat → Int32} {v w : mV} {N st B j : Nat} (C : cL g p s m c b0 L0 b xs) (hL : L0 ≤ 2048) (hj : 4 * j + 3 < L0) (hZ : ZR v w N st B) (hB : B ≤ 50000) (next : ∀ (v2 w2 : mV) (N2 st2 B2 : Nat), ZR v2 w2 N2 st2 B2 → B2 ≤ B + 80 → WL g p l e s m below meth c Q b0 b v2 w2 850 [some (.ref b0), some (.ref (b + 0)), some (.ref (b + 328 + 0)), some (.int (nI (4 * j)))] []) : WL g p l e s m below meth c Q b0 b v w 627 [some (.ref b0), some (.ref (b + 0)), some (.ref (b + 328 + 0)), some (.int (nI (4 * j)))] [] := by
  obtain ⟨hR, hV, hc, hN, hN80, hst, hst4⟩ := zr_facts hZ
  have hI := hV.MI
  obtain ⟨T, hT, hMT⟩ := inv_T hV
  have hEq := q_count hR hV (hZ.2.2.1.1.trans hst.symm) (hZ.2.1.1.2.1.trans hN.symm) (xs (4 * j + 1))
  refine l_aload_n C dL_law_627 rfl ?_
  refine l_aload_n C dL_law_628 rfl ?_
  refine l_iload_n C dL_law_629 rfl ?_
  refine l_iconst C dL_law_630 ic_1 ?_
  refine l_iadd C dL_law_631 ?_
  refine l_sld C hL (j := 4 * j + 1) dL_law_632 (na_add rfl kn_1) (by omega) ?_
  refine l_callC C (as := [.int (xs (4 * j + 1))]) (nas := 1) kw_30_4 kw_30_5 kw_30_6 kw_1_2 kw_30_7 ⟨by decide +kernel, by decide +kernel⟩ (by decide +kernel) rfl ⟨rfl, rfl⟩ dL_law_633 (c_X10_count isZ_C hc (xs (4 * j + 1))) rfl rfl rfl rfl rfl ?_
  refine l_aload_n C dL_law_636 rfl ?_
  refine l_aload_n C dL_law_637 rfl ?_
  refine l_iload_n C dL_law_638 rfl ?_
  refine l_iconst C dL_law_639 ic_1 ?_
  refine l_iadd C dL_law_640 ?_
  refine l_sld C hL (j := 4 * j + 1) dL_law_641 (na_add rfl kn_1) (by omega) ?_
  refine l_callM C (as := [.int (xs (4 * j + 1))]) (nas := 1) kw_31_7 kw_31_8 kw_31_9 kw_1_5 kw_31_10 ⟨by decide +kernel, by decide +kernel⟩ (by decide +kernel) rfl ⟨rfl, rfl⟩ dL_law_642 (ct_sv (c_X11_count (v := w) (σ := w 1) isM_M hI (xs (4 * j + 1)))) rfl rfl rfl rfl rfl ?_
  refine l_same (tgt := 850) C dL_law_645 rfl hEq ?_
  exact next _ _ _ _ _ (zr_sv hZ) (by omega)
set_option maxRecDepth 100000 in
set_option maxHeartbeats 4000000 in
theorem lc_16 {g : mG} {p : Program} {l : Launch} {e : Env} {s : State} {m : MethodId} {below : List Frame} {meth : Method} {c : Code} {Q : State → Prop} {b0 L0 b : Nat} {xs : Nat → Int32} {v w : mV} {N st B j : Nat} (C : cL g p s m c b0 L0 b xs) (hL : L0 ≤ 2048) (hj : 4 * j + 3 < L0) (hZ : ZR v w N st B) (hB : B ≤ 50000) (next : ∀ (v2 w2 : mV) (N2 st2 B2 : Nat), ZR v2 w2 N2 st2 B2 → B2 ≤ B + 80 → WL g p l e s m below meth c Q b0 b v2 w2 850 [some (.ref b0), some (.ref (b + 0)), some (.ref (b + 328 + 0)), some (.int (nI (4 * j)))] []) : WL g p l e s m below meth c Q b0 b v w 650 [some (.ref b0), some (.ref (b + 0)), some (.ref (b + 328 + 0)), some (.int (nI (4 * j)))] [] := by
  obtain ⟨hR, hV, hc, hN, hN80, hst, hst4⟩ := zr_facts hZ
  have hI := hV.MI
  obtain ⟨T, hT, hMT⟩ := inv_T hV
  have hEq := q_onCall hR hV (xs (4 * j + 1)) (xs (4 * j + 2))
  refine l_aload_n C dL_law_650 rfl ?_
  refine l_aload_n C dL_law_651 rfl ?_
  refine l_iload_n C dL_law_652 rfl ?_
  refine l_iconst C dL_law_653 ic_1 ?_
  refine l_iadd C dL_law_654 ?_
  refine l_sld C hL (j := 4 * j + 1) dL_law_655 (na_add rfl kn_1) (by omega) ?_
  refine l_aload_n C dL_law_656 rfl ?_
  refine l_iload_n C dL_law_657 rfl ?_
  refine l_iconst C dL_law_658 ic_2 ?_
  refine l_iadd C dL_law_659 ?_
  refine l_sld C hL (j := 4 * j + 2) dL_law_660 (na_add rfl kn_2) (by omega) ?_
  refine l_callC C (as := [.int (xs (4 * j + 1)), .int (xs (4 * j + 2))]) (nas := 2) kw_31_16 kw_31_17 kw_31_18 kw_1_2 kw_31_19 ⟨by decide +kernel, by decide +kernel⟩ (by decide +kernel) rfl ⟨rfl, rfl⟩ dL_law_661 (c_X10_onCall isZ_C hc (xs (4 * j + 1)) (xs (4 * j + 2))) rfl rfl rfl rfl rfl ?_
  refine l_aload_n C dL_law_664 rfl ?_
  refine l_aload_n C dL_law_665 rfl ?_
  refine l_iload_n C dL_law_666 rfl ?_
  refine l_iconst C dL_law_667 ic_1 ?_
  refine l_iadd C dL_law_668 ?_
  refine l_sld C hL (j := 4 * j + 1) dL_law_669 (na_add rfl kn_1) (by omega) ?_
  refine l_aload_n C dL_law_670 rfl ?_
  refine l_iload_n C dL_law_671 rfl ?_
  refine l_iconst C dL_law_672 ic_2 ?_
  refine l_iadd C dL_law_673 ?_
  refine l_sld C hL (j := 4 * j + 2) dL_law_674 (na_add rfl kn_2) (by omega) ?_
  refine l_callM C (as := [.int (xs (4 * j + 1)), .int (xs (4 * j + 2))]) (nas := 2) kw_31_22 kw_31_23 kw_32_0 kw_1_5 kw_32_1 ⟨by decide +kernel, by decide +kernel⟩ (by decide +kernel) rfl ⟨rfl, rfl⟩ dL_law_675 (ct_sv (c_X11_onCall (v := w) (σ := w 1) isM_M hI (xs (4 * j + 1)) (xs (4 * j + 2)))) rfl rfl rfl rfl rfl ?_
  refine l_same (tgt := 850) C dL_law_678 rfl hEq ?_
  exact next _ _ _ _ _ (zr_sv hZ) (by omega)
set_option maxRecDepth 100000 in
set_option maxHeartbeats 4000000 in
theorem lc_17 {g : mG} {p : Program} {l : Launch} {e : Env} {s : State} {m : MethodId} {below : List Frame} {meth : Method} {c : Code} {Q : State → Prop} {b0 L0 b : Nat} {xs : Nat → Int32} {v w : mV} {N st B j : Nat} (C : cL g p s m c b0 L0 b xs) (hL : L0 ≤ 2048) (hj : 4 * j + 3 < L0) (hZ : ZR v w N st B) (hB : B ≤ 50000) (next : ∀ (v2 w2 : mV) (N2 st2 B2 : Nat), ZR v2 w2 N2 st2 B2 → B2 ≤ B + 80 → WL g p l e s m below meth c Q b0 b v2 w2 850 [some (.ref b0), some (.ref (b + 0)), some (.ref (b + 328 + 0)), some (.int (nI (4 * j)))] []) : WL g p l e s m below meth c Q b0 b v w 683 [some (.ref b0), some (.ref (b + 0)), some (.ref (b + 328 + 0)), some (.int (nI (4 * j)))] [] := by
  obtain ⟨hR, hV, hc, hN, hN80, hst, hst4⟩ := zr_facts hZ
  have hI := hV.MI
  obtain ⟨T, hT, hMT⟩ := inv_T hV
  have hEq := q_uncovered hR hV
  refine l_aload_n C dL_law_683 rfl ?_
  refine l_callC C (as := []) (nas := 0) kw_32_2 kw_32_3 kw_32_4 kw_1_2 kw_32_5 ⟨by decide +kernel, by decide +kernel⟩ (by decide +kernel) rfl ⟨rfl, rfl⟩ dL_law_684 (c_X10_uncovered isZ_C hc) rfl rfl rfl rfl rfl ?_
  refine l_aload_n C dL_law_687 rfl ?_
  refine l_callM C (as := []) (nas := 0) kw_32_6 kw_32_7 kw_32_8 kw_1_5 kw_32_9 ⟨by decide +kernel, by decide +kernel⟩ (by decide +kernel) rfl ⟨rfl, rfl⟩ dL_law_688 (ct_sv (c_X11_uncovered (v := w) (σ := w 1) isM_M hI)) rfl rfl rfl rfl rfl ?_
  refine l_same (tgt := 850) C dL_law_691 rfl hEq ?_
  exact next _ _ _ _ _ (zr_sv hZ) (by omega)
set_option maxRecDepth 100000 in
set_option maxHeartbeats 4000000 in
theorem lc_18 {g : mG} {p : Program} {l : Launch} {e : Env} {s : State} {m : MethodId} {below : List Frame} {meth : Method} {c : Code} {Q : State → Prop} {b0 L0 b : Nat} {xs : Nat → Int32} {v w : mV} {N st B j : Nat} (C : cL g p s m c b0 L0 b xs) (hL : L0 ≤ 2048) (hj : 4 * j + 3 < L0) (hZ : ZR v w N st B) (hB : B ≤ 50000) (next : ∀ (v2 w2 : mV) (N2 st2 B2 : Nat), ZR v2 w2 N2 st2 B2 → B2 ≤ B + 80 → WL g p l e s m below meth c Q b0 b v2 w2 850 [some (.ref b0), some (.ref (b + 0)), some (.ref (b + 328 + 0)), some (.int (nI (4 * j)))] []) : WL g p l e s m below meth c Q b0 b v w 696 [some (.ref b0), some (.ref (b + 0)), some (.ref (b + 328 + 0)), some (.int (nI (4 * j)))] [] := by
  obtain ⟨hR, hV, hc, hN, hN80, hst, hst4⟩ := zr_facts hZ
  have hI := hV.MI
  obtain ⟨T, hT, hMT⟩ := inv_T hV
  obtain ⟨hEq, hZ2⟩ := q_later hZ (xs (4 * j + 1)) (xs (4 * j + 2)) (xs (4 * j + 3))
  refine l_aload_n C dL_law_696 rfl ?_
  refine l_aload_n C dL_law_697 rfl ?_
  refine l_iload_n C dL_law_698 rfl ?_
  refine l_iconst C dL_law_699 ic_1 ?_
  refine l_iadd C dL_law_700 ?_
  refine l_sld C hL (j := 4 * j + 1) dL_law_701 (na_add rfl kn_1) (by omega) ?_
  refine l_aload_n C dL_law_702 rfl ?_
  refine l_iload_n C dL_law_703 rfl ?_
  refine l_iconst C dL_law_704 ic_2 ?_
  refine l_iadd C dL_law_705 ?_
  refine l_sld C hL (j := 4 * j + 2) dL_law_706 (na_add rfl kn_2) (by omega) ?_
  refine l_aload_n C dL_law_707 rfl ?_
  refine l_iload_n C dL_law_708 rfl ?_
  refine l_iconst C dL_law_709 ic_3 ?_
  refine l_iadd C dL_law_710 ?_
  refine l_sld C hL (j := 4 * j + 3) dL_law_711 (na_add rfl kn_3) (by omega) ?_
  refine l_callC C (as := [.int (xs (4 * j + 1)), .int (xs (4 * j + 2)), .int (xs (4 * j + 3))]) (nas := 3) kw_32_10 kw_32_11 kw_32_12 kw_1_2 kw_32_13 ⟨by decide +kernel, by decide +kernel⟩ (by decide +kernel) rfl ⟨rfl, rfl⟩ dL_law_712 (c_X10_later isZ_C hc (xs (4 * j + 1)) (xs (4 * j + 2)) (xs (4 * j + 3))) rfl rfl rfl rfl rfl ?_
  refine l_aload_n C dL_law_715 rfl ?_
  refine l_aload_n C dL_law_716 rfl ?_
  refine l_iload_n C dL_law_717 rfl ?_
  refine l_iconst C dL_law_718 ic_1 ?_
  refine l_iadd C dL_law_719 ?_
  refine l_sld C hL (j := 4 * j + 1) dL_law_720 (na_add rfl kn_1) (by omega) ?_
  refine l_aload_n C dL_law_721 rfl ?_
  refine l_iload_n C dL_law_722 rfl ?_
  refine l_iconst C dL_law_723 ic_2 ?_
  refine l_iadd C dL_law_724 ?_
  refine l_sld C hL (j := 4 * j + 2) dL_law_725 (na_add rfl kn_2) (by omega) ?_
  refine l_aload_n C dL_law_726 rfl ?_
  refine l_iload_n C dL_law_727 rfl ?_
  refine l_iconst C dL_law_728 ic_3 ?_
  refine l_iadd C dL_law_729 ?_
  refine l_sld C hL (j := 4 * j + 3) dL_law_730 (na_add rfl kn_3) (by omega) ?_
  refine l_callM C (as := [.int (xs (4 * j + 1)), .int (xs (4 * j + 2)), .int (xs (4 * j + 3))]) (nas := 3) kw_32_19 kw_32_20 kw_32_21 kw_1_5 kw_32_22 ⟨by decide +kernel, by decide +kernel⟩ (by decide +kernel) rfl ⟨rfl, rfl⟩ dL_law_731 (ct_sv (c_X11_later (v := w) (σ := w 1) isM_M T hMT hT (xs (4 * j + 1)) (xs (4 * j + 2)) (xs (4 * j + 3)))) rfl rfl rfl rfl rfl ?_
  refine l_same (tgt := 850) C dL_law_734 rfl hEq ?_
  exact next _ _ _ _ _ hZ2 (by omega)
set_option maxRecDepth 100000 in
set_option maxHeartbeats 4000000 in
theorem lc_19 {g : mG} {p : Program} {l : Launch} {e : Env} {s : State} {m : MethodId} {below : List Frame} {meth : Method} {c : Code} {Q : State → Prop} {b0 L0 b : Nat} {xs : Nat → Int32} {v w : mV} {N st B j : Nat} (C : cL g p s m c b0 L0 b xs) (hL : L0 ≤ 2048) (hj : 4 * j + 3 < L0) (hZ : ZR v w N st B) (hB : B ≤ 50000) (next : ∀ (v2 w2 : mV) (N2 st2 B2 : Nat), ZR v2 w2 N2 st2 B2 → B2 ≤ B + 80 → WL g p l e s m below meth c Q b0 b v2 w2 850 [some (.ref b0), some (.ref (b + 0)), some (.ref (b + 328 + 0)), some (.int (nI (4 * j)))] []) : WL g p l e s m below meth c Q b0 b v w 739 [some (.ref b0), some (.ref (b + 0)), some (.ref (b + 328 + 0)), some (.int (nI (4 * j)))] [] := by
  obtain ⟨hR, hV, hc, hN, hN80, hst, hst4⟩ := zr_facts hZ
  have hI := hV.MI
  obtain ⟨T, hT, hMT⟩ := inv_T hV
  obtain ⟨x1, x2, x3, x4, x5, x6, x7, x8⟩ := zr_ack hZ hB
  have hEq := q_ackBits hR hV (by omega)
  refine l_aload_n C dL_law_739 rfl ?_
  refine l_callC C (as := []) (nas := 0) kw_32_23 kw_33_0 kw_33_1 kw_1_2 kw_33_2 ⟨by decide +kernel, by decide +kernel⟩ (by decide +kernel) rfl ⟨rfl, rfl⟩ dL_law_740 (c_X10_acknowledgeBits isZ_C hc x1 x2 x3 x4 x7 x8) rfl rfl rfl rfl rfl ?_
  refine l_aload_n C dL_law_743 rfl ?_
  refine l_callM C (as := []) (nas := 0) kw_33_10 kw_33_11 kw_33_12 kw_1_5 kw_33_13 ⟨by decide +kernel, by decide +kernel⟩ (by decide +kernel) rfl ⟨rfl, rfl⟩ dL_law_744 (ct_sv (c_X11_acknowledgeBits (v := w) (σ := w 1) isM_M x1 x2 x5 x6 x7 x8)) rfl rfl rfl rfl rfl ?_
  refine l_same (tgt := 850) C dL_law_747 rfl hEq ?_
  exact next _ _ _ _ _ (zr_sv hZ) (by omega)
set_option maxRecDepth 100000 in
set_option maxHeartbeats 4000000 in
theorem lc_20 {g : mG} {p : Program} {l : Launch} {e : Env} {s : State} {m : MethodId} {below : List Frame} {meth : Method} {c : Code} {Q : State → Prop} {b0 L0 b : Nat} {xs : Nat → Int32} {v w : mV} {N st B j : Nat} (C : cL g p s m c b0 L0 b xs) (hL : L0 ≤ 2048) (hj : 4 * j + 3 < L0) (hZ : ZR v w N st B) (hB : B ≤ 50000) (next : ∀ (v2 w2 : mV) (N2 st2 B2 : Nat), ZR v2 w2 N2 st2 B2 → B2 ≤ B + 80 → WL g p l e s m below meth c Q b0 b v2 w2 850 [some (.ref b0), some (.ref (b + 0)), some (.ref (b + 328 + 0)), some (.int (nI (4 * j)))] []) : WL g p l e s m below meth c Q b0 b v w 752 [some (.ref b0), some (.ref (b + 0)), some (.ref (b + 328 + 0)), some (.int (nI (4 * j)))] [] := by
  obtain ⟨hR, hV, hc, hN, hN80, hst, hst4⟩ := zr_facts hZ
  have hI := hV.MI
  obtain ⟨T, hT, hMT⟩ := inv_T hV
  obtain ⟨x1, x2, x3, x4, x5, x6, x7, x8⟩ := zr_uno hZ
  have hEq := q_unoBits hR hV
  refine l_aload_n C dL_law_752 rfl ?_
  refine l_callC C (as := []) (nas := 0) kw_34_2 kw_34_3 kw_34_4 kw_1_2 kw_34_5 ⟨by decide +kernel, by decide +kernel⟩ (by decide +kernel) rfl ⟨rfl, rfl⟩ dL_law_753 (c_X10_unownedBits isZ_C hc x1 x2 x3 x4 x7 x8) rfl rfl rfl rfl rfl ?_
  refine l_aload_n C dL_law_756 rfl ?_
  refine l_callM C (as := []) (nas := 0) kw_34_8 kw_34_9 kw_34_10 kw_1_5 kw_34_11 ⟨by decide +kernel, by decide +kernel⟩ (by decide +kernel) rfl ⟨rfl, rfl⟩ dL_law_757 (ct_sv (c_X11_unownedBits (v := w) (σ := w 1) isM_M x1 x2 x5 x6 x7 x8)) rfl rfl rfl rfl rfl ?_
  refine l_same (tgt := 850) C dL_law_760 rfl hEq ?_
  exact next _ _ _ _ _ (zr_sv hZ) (by omega)
set_option maxRecDepth 100000 in
set_option maxHeartbeats 4000000 in
theorem lc_21 {g : mG} {p : Program} {l : Launch} {e : Env} {s : State} {m : MethodId} {below : List Frame} {meth : Method} {c : Code} {Q : State → Prop} {b0 L0 b : Nat} {xs : Nat → Int32} {v w : mV} {N st B j : Nat} (C : cL g p s m c b0 L0 b xs) (hL : L0 ≤ 2048) (hj : 4 * j + 3 < L0) (hZ : ZR v w N st B) (hB : B ≤ 50000) (next : ∀ (v2 w2 : mV) (N2 st2 B2 : Nat), ZR v2 w2 N2 st2 B2 → B2 ≤ B + 80 → WL g p l e s m below meth c Q b0 b v2 w2 850 [some (.ref b0), some (.ref (b + 0)), some (.ref (b + 328 + 0)), some (.int (nI (4 * j)))] []) : WL g p l e s m below meth c Q b0 b v w 765 [some (.ref b0), some (.ref (b + 0)), some (.ref (b + 328 + 0)), some (.int (nI (4 * j)))] [] := by
  obtain ⟨hR, hV, hc, hN, hN80, hst, hst4⟩ := zr_facts hZ
  have hI := hV.MI
  obtain ⟨T, hT, hMT⟩ := inv_T hV
  obtain ⟨hEq, st2, hZ2⟩ := q_undo hZ
  refine l_aload_n C dL_law_765 rfl ?_
  refine l_callC C (as := []) (nas := 0) kw_34_12 kw_34_13 kw_34_14 kw_1_2 kw_34_15 ⟨by decide +kernel, by decide +kernel⟩ (by decide +kernel) rfl ⟨rfl, rfl⟩ dL_law_766 (c_X10_undo isZ_C hc) rfl rfl rfl rfl rfl ?_
  refine l_aload_n C dL_law_769 rfl ?_
  refine l_callM C (as := []) (nas := 0) kw_34_20 kw_34_21 kw_34_22 kw_1_5 kw_34_23 ⟨by decide +kernel, by decide +kernel⟩ (by decide +kernel) rfl ⟨rfl, rfl⟩ dL_law_770 (ct_sv (c_X11_undo (v := w) (σ := w 1) isM_M st hst hst4)) rfl rfl rfl rfl rfl ?_
  refine l_same (tgt := 850) C dL_law_773 rfl hEq ?_
  exact next _ _ _ _ _ hZ2 (by omega)
set_option maxRecDepth 100000 in
set_option maxHeartbeats 4000000 in
theorem lc_22 {g : mG} {p : Program} {l : Launch} {e : Env} {s : State} {m : MethodId} {below : List Frame} {meth : Method} {c : Code} {Q : State → Prop} {b0 L0 b : Nat} {xs : Nat → Int32} {v w : mV} {N st B j : Nat} (C : cL g p s m c b0 L0 b xs) (hL : L0 ≤ 2048) (hj : 4 * j + 3 < L0) (hZ : ZR v w N st B) (hB : B ≤ 50000) (next : ∀ (v2 w2 : mV) (N2 st2 B2 : Nat), ZR v2 w2 N2 st2 B2 → B2 ≤ B + 80 → WL g p l e s m below meth c Q b0 b v2 w2 850 [some (.ref b0), some (.ref (b + 0)), some (.ref (b + 328 + 0)), some (.int (nI (4 * j)))] []) : WL g p l e s m below meth c Q b0 b v w 778 [some (.ref b0), some (.ref (b + 0)), some (.ref (b + 328 + 0)), some (.int (nI (4 * j)))] [] := by
  obtain ⟨hR, hV, hc, hN, hN80, hst, hst4⟩ := zr_facts hZ
  have hI := hV.MI
  obtain ⟨T, hT, hMT⟩ := inv_T hV
  obtain ⟨hEq, N2, hZ2⟩ := q_type hZ (xs (4 * j + 1))
  refine l_aload_n C dL_law_778 rfl ?_
  refine l_aload_n C dL_law_779 rfl ?_
  refine l_iload_n C dL_law_780 rfl ?_
  refine l_iconst C dL_law_781 ic_1 ?_
  refine l_iadd C dL_law_782 ?_
  refine l_sld C hL (j := 4 * j + 1) dL_law_783 (na_add rfl kn_1) (by omega) ?_
  refine l_callC C (as := [.int (xs (4 * j + 1))]) (nas := 1) kw_35_0 kw_35_1 kw_35_2 kw_1_2 kw_35_3 ⟨by decide +kernel, by decide +kernel⟩ (by decide +kernel) rfl ⟨rfl, rfl⟩ dL_law_784 (c_X10_type isZ_C hc (xs (4 * j + 1))) rfl rfl rfl rfl rfl ?_
  refine l_aload_n C dL_law_787 rfl ?_
  refine l_aload_n C dL_law_788 rfl ?_
  refine l_iload_n C dL_law_789 rfl ?_
  refine l_iconst C dL_law_790 ic_1 ?_
  refine l_iadd C dL_law_791 ?_
  refine l_sld C hL (j := 4 * j + 1) dL_law_792 (na_add rfl kn_1) (by omega) ?_
  refine l_callM C (as := [.int (xs (4 * j + 1))]) (nas := 1) kw_35_9 kw_35_10 kw_35_11 kw_1_5 kw_35_12 ⟨by decide +kernel, by decide +kernel⟩ (by decide +kernel) rfl ⟨rfl, rfl⟩ dL_law_793 (c_X11_type isM_M N hN hN80 (xs (4 * j + 1))) rfl rfl rfl rfl rfl ?_
  refine l_same (tgt := 850) C dL_law_796 rfl hEq ?_
  exact next _ _ _ _ _ hZ2 (by omega)
set_option maxRecDepth 100000 in
set_option maxHeartbeats 4000000 in
theorem lc_23 {g : mG} {p : Program} {l : Launch} {e : Env} {s : State} {m : MethodId} {below : List Frame} {meth : Method} {c : Code} {Q : State → Prop} {b0 L0 b : Nat} {xs : Nat → Int32} {v w : mV} {N st B j : Nat} (C : cL g p s m c b0 L0 b xs) (hL : L0 ≤ 2048) (hj : 4 * j + 3 < L0) (hZ : ZR v w N st B) (hB : B ≤ 50000) (next : ∀ (v2 w2 : mV) (N2 st2 B2 : Nat), ZR v2 w2 N2 st2 B2 → B2 ≤ B + 80 → WL g p l e s m below meth c Q b0 b v2 w2 850 [some (.ref b0), some (.ref (b + 0)), some (.ref (b + 328 + 0)), some (.int (nI (4 * j)))] []) : WL g p l e s m below meth c Q b0 b v w 801 [some (.ref b0), some (.ref (b + 0)), some (.ref (b + 328 + 0)), some (.int (nI (4 * j)))] [] := by
  obtain ⟨hR, hV, hc, hN, hN80, hst, hst4⟩ := zr_facts hZ
  have hI := hV.MI
  obtain ⟨T, hT, hMT⟩ := inv_T hV
  obtain ⟨hEq, hZ2⟩ := q_clear hZ
  refine l_aload_n C dL_law_801 rfl ?_
  refine l_callC C (as := []) (nas := 0) kw_35_13 kw_35_14 kw_35_15 kw_1_2 kw_35_16 ⟨by decide +kernel, by decide +kernel⟩ (by decide +kernel) rfl ⟨rfl, rfl⟩ dL_law_802 (c_X10_clearText isZ_C hc) rfl rfl rfl rfl rfl ?_
  refine l_aload_n C dL_law_805 rfl ?_
  refine l_callM C (as := []) (nas := 0) kw_35_17 kw_35_18 kw_35_19 kw_1_5 kw_35_20 ⟨by decide +kernel, by decide +kernel⟩ (by decide +kernel) rfl ⟨rfl, rfl⟩ dL_law_806 (c_X11_clearText isM_M) rfl rfl rfl rfl rfl ?_
  refine l_same (tgt := 850) C dL_law_809 rfl hEq ?_
  exact next _ _ _ _ _ hZ2 (by omega)
set_option maxRecDepth 100000 in
set_option maxHeartbeats 4000000 in
theorem lc_24 {g : mG} {p : Program} {l : Launch} {e : Env} {s : State} {m : MethodId} {below : List Frame} {meth : Method} {c : Code} {Q : State → Prop} {b0 L0 b : Nat} {xs : Nat → Int32} {v w : mV} {N st B j : Nat} (C : cL g p s m c b0 L0 b xs) (hL : L0 ≤ 2048) (hj : 4 * j + 3 < L0) (hZ : ZR v w N st B) (hB : B ≤ 50000) (next : ∀ (v2 w2 : mV) (N2 st2 B2 : Nat), ZR v2 w2 N2 st2 B2 → B2 ≤ B + 80 → WL g p l e s m below meth c Q b0 b v2 w2 850 [some (.ref b0), some (.ref (b + 0)), some (.ref (b + 328 + 0)), some (.int (nI (4 * j)))] []) : WL g p l e s m below meth c Q b0 b v w 814 [some (.ref b0), some (.ref (b + 0)), some (.ref (b + 328 + 0)), some (.int (nI (4 * j)))] [] := by
  obtain ⟨hR, hV, hc, hN, hN80, hst, hst4⟩ := zr_facts hZ
  have hI := hV.MI
  obtain ⟨T, hT, hMT⟩ := inv_T hV
  obtain ⟨hEq, hZ2⟩ := q_fault hZ (xs (4 * j + 1))
  refine l_aload_n C dL_law_814 rfl ?_
  refine l_aload_n C dL_law_815 rfl ?_
  refine l_iload_n C dL_law_816 rfl ?_
  refine l_iconst C dL_law_817 ic_1 ?_
  refine l_iadd C dL_law_818 ?_
  refine l_sld C hL (j := 4 * j + 1) dL_law_819 (na_add rfl kn_1) (by omega) ?_
  refine l_callC C (as := [.int (xs (4 * j + 1))]) (nas := 1) kw_35_21 kw_35_22 kw_35_23 kw_1_2 kw_36_0 ⟨by decide +kernel, by decide +kernel⟩ (by decide +kernel) rfl ⟨rfl, rfl⟩ dL_law_820 (c_X10_fault isZ_C hc (xs (4 * j + 1))) rfl rfl rfl rfl rfl ?_
  refine l_aload_n C dL_law_823 rfl ?_
  refine l_aload_n C dL_law_824 rfl ?_
  refine l_iload_n C dL_law_825 rfl ?_
  refine l_iconst C dL_law_826 ic_1 ?_
  refine l_iadd C dL_law_827 ?_
  refine l_sld C hL (j := 4 * j + 1) dL_law_828 (na_add rfl kn_1) (by omega) ?_
  refine l_callM C (as := [.int (xs (4 * j + 1))]) (nas := 1) kw_37_16 kw_37_17 kw_37_18 kw_1_5 kw_37_19 ⟨by decide +kernel, by decide +kernel⟩ (by decide +kernel) rfl ⟨rfl, rfl⟩ dL_law_829 (ct_sv (c_X11_fault (v := w) (σ := w 1) isM_M ⟨T, hT, hMT⟩ N hN hN80 (xs (4 * j + 1)))) rfl rfl rfl rfl rfl ?_
  refine l_same (tgt := 850) C dL_law_832 rfl hEq ?_
  exact next _ _ _ _ _ hZ2 (by omega)
set_option maxRecDepth 100000 in
set_option maxHeartbeats 4000000 in
theorem lc_25 {g : mG} {p : Program} {l : Launch} {e : Env} {s : State} {m : MethodId} {below : List Frame} {meth : Method} {c : Code} {Q : State → Prop} {b0 L0 b : Nat} {xs : Nat → Int32} {v w : mV} {N st B j : Nat} (C : cL g p s m c b0 L0 b xs) (hL : L0 ≤ 2048) (hj : 4 * j + 3 < L0) (hZ : ZR v w N st B) (hB : B ≤ 50000) (next : ∀ (v2 w2 : mV) (N2 st2 B2 : Nat), ZR v2 w2 N2 st2 B2 → B2 ≤ B + 80 → WL g p l e s m below meth c Q b0 b v2 w2 850 [some (.ref b0), some (.ref (b + 0)), some (.ref (b + 328 + 0)), some (.int (nI (4 * j)))] []) : WL g p l e s m below meth c Q b0 b v w 837 [some (.ref b0), some (.ref (b + 0)), some (.ref (b + 328 + 0)), some (.int (nI (4 * j)))] [] := by
  obtain ⟨hR, hV, hc, hN, hN80, hst, hst4⟩ := zr_facts hZ
  have hI := hV.MI
  obtain ⟨T, hT, hMT⟩ := inv_T hV
  obtain ⟨hEq, st2, hZ2⟩ := q_play hZ
  refine l_aload_n C dL_law_837 rfl ?_
  refine l_callC C (as := []) (nas := 0) kw_38_23 kw_39_0 kw_39_1 kw_1_2 kw_39_2 ⟨by decide +kernel, by decide +kernel⟩ (by decide +kernel) rfl ⟨rfl, rfl⟩ dL_law_838 (c_X10_play isZ_C hc) rfl rfl rfl rfl rfl ?_
  refine l_aload_n C dL_law_841 rfl ?_
  refine l_callM C (as := []) (nas := 0) kw_39_4 kw_39_5 kw_39_6 kw_1_5 kw_39_7 ⟨by decide +kernel, by decide +kernel⟩ (by decide +kernel) rfl ⟨rfl, rfl⟩ dL_law_842 (ct_sv (c_X11_play (v := w) (σ := w 1) isM_M ⟨T, hT, hMT⟩ N hN hN80 st hst hst4)) rfl rfl rfl rfl rfl ?_
  refine l_same (tgt := 850) C dL_law_845 rfl hEq ?_
  exact next _ _ _ _ _ hZ2 (by omega)
