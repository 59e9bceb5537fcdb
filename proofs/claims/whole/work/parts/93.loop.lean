/-! ===== the law's loop ===== -/
theorem law_cmp {L j : Nat} (hL : L ≤ 2048) (hj : 4 * j ≤ 2048) : nI L - 4 < nI (4 * j) ↔ L < 4 * j + 4 := by
  by_cases h : 4 ≤ L
  · rw [na_sub rfl kn_4 h, na_lt rfl rfl (by omega) (by omega)]
    omega
  · refine ⟨fun _ => by omega, fun _ => Int32.lt_of_lt_of_le (b := 0) ?_ (nI_pos' (by omega))⟩
    have : L = 0 ∨ L = 1 ∨ L = 2 ∨ L = 3 := by omega
    rcases this with rfl | rfl | rfl | rfl <;> decide +kernel
set_option maxRecDepth 100000 in
set_option maxHeartbeats 4000000 in
theorem law_loop {g : mG} {p : Program} {l : Launch} {e : Env} {s : State} {m : MethodId} {below : List Frame} {meth : Method} {c : Code} {b0 L0 b : Nat} {xs : Nat → Int32} (C : cL g p s m c b0 L0 b xs) (hL : L0 ≤ 2048) (hr : meth.sig.returnType = ret) (hlocks : meth.locks = false) : ∀ (r j : Nat) (v w : mV) (N st B : Nat), j + r = L0 / 4 → ZR v w N st B → B + 80 * r ≤ 50000 → WL g p l e s m below meth c (lw_Z below #[Value.ref b0] s) b0 b v w 18 [some (.ref b0), some (.ref (b + 0)), some (.ref (b + 328 + 0)), some (.int (nI (4 * j)))] [] := by
  intro r
  induction r with
  | zero =>
    intro j v w N st B hj hZ hB
    refine l_iload_n C dL_law_18 rfl ?_
    refine l_aload_n C dL_law_19 rfl ?_
    refine l_slen C dL_law_20 ?_
    refine l_iconst C dL_law_21 ic_4 ?_
    refine l_isub C dL_law_22 ?_
    refine l_icmp_gt (tgt := 856) C dL_law_23 rfl (fun h => ?_) (fun h => ?_)
    · refine l_iconst C dL_law_856 ic_1 ?_
      exact l_end C hr hlocks dL_law_857
    · exact absurd ((law_cmp hL (by omega)).mpr (by omega)) h
  | succ r ih =>
    intro j v w N st B hj hZ hB
    refine l_iload_n C dL_law_18 rfl ?_
    refine l_aload_n C dL_law_19 rfl ?_
    refine l_slen C dL_law_20 ?_
    refine l_iconst C dL_law_21 ic_4 ?_
    refine l_isub C dL_law_22 ?_
    refine l_icmp_gt (tgt := 856) C dL_law_23 rfl (fun h => ?_) (fun h => ?_)
    · exact absurd ((law_cmp hL (by omega)).mp h) (by omega)
    have hj3 : 4 * j + 3 < L0 := by omega
    have next : ∀ (v2 w2 : mV) (N2 st2 B2 : Nat), ZR v2 w2 N2 st2 B2 → B2 ≤ B + 80 → WL g p l e s m below meth c (lw_Z below #[Value.ref b0] s) b0 b v2 w2 850 [some (.ref b0), some (.ref (b + 0)), some (.ref (b + 328 + 0)), some (.int (nI (4 * j)))] [] := by
      intro v2 w2 N2 st2 B2 hZ2 hB2
      refine l_iinc (y := nI (4 * (j + 1))) C dL_law_850 rfl (by rw [ic_4]; exact na_add rfl kn_4) rfl ?_
      refine l_goto (tgt := 18) C dL_law_853 rfl ?_
      exact ih (j + 1) v2 w2 N2 st2 B2 (by omega) hZ2 (by omega)
    refine l_aload_n C dL_law_26 rfl ?_
    refine l_iload_n C dL_law_27 rfl ?_
    refine l_sld C hL (j := 4 * j) dL_law_28 rfl (by omega) ?_
    refine l_bipush C dL_law_29 rfl ?_
    refine l_iand C dL_law_31 ?_
    by_cases s_0 : (xs (4 * j) &&& 31) = 0
    · refine l_tsw (y := 0) (off := 120) (tgt := 152) C dL_law_32 s_0 (by decide +kernel) rfl ?_
      exact lc_0 C hL hj3 hZ (by omega) next
    by_cases s_1 : (xs (4 * j) &&& 31) = 1
    · refine l_tsw (y := 1) (off := 133) (tgt := 165) C dL_law_32 s_1 (by decide +kernel) rfl ?_
      exact lc_1 C hL hj3 hZ (by omega) next
    by_cases s_2 : (xs (4 * j) &&& 31) = 2
    · refine l_tsw (y := 2) (off := 176) (tgt := 208) C dL_law_32 s_2 (by decide +kernel) rfl ?_
      exact lc_2 C hL hj3 hZ (by omega) next
    by_cases s_3 : (xs (4 * j) &&& 31) = 3
    · refine l_tsw (y := 3) (off := 209) (tgt := 241) C dL_law_32 s_3 (by decide +kernel) rfl ?_
      exact lc_3 C hL hj3 hZ (by omega) next
    by_cases s_4 : (xs (4 * j) &&& 31) = 4
    · refine l_tsw (y := 4) (off := 242) (tgt := 274) C dL_law_32 s_4 (by decide +kernel) rfl ?_
      exact lc_4 C hL hj3 hZ (by omega) next
    by_cases s_5 : (xs (4 * j) &&& 31) = 5
    · refine l_tsw (y := 5) (off := 285) (tgt := 317) C dL_law_32 s_5 (by decide +kernel) rfl ?_
      exact lc_5 C hL hj3 hZ (by omega) next
    by_cases s_6 : (xs (4 * j) &&& 31) = 6
    · refine l_tsw (y := 6) (off := 318) (tgt := 350) C dL_law_32 s_6 (by decide +kernel) rfl ?_
      exact lc_6 C hL hj3 hZ (by omega) next
    by_cases s_7 : (xs (4 * j) &&& 31) = 7
    · refine l_tsw (y := 7) (off := 361) (tgt := 393) C dL_law_32 s_7 (by decide +kernel) rfl ?_
      exact lc_7 C hL hj3 hZ (by omega) next
    by_cases s_8 : (xs (4 * j) &&& 31) = 8
    · refine l_tsw (y := 8) (off := 394) (tgt := 426) C dL_law_32 s_8 (by decide +kernel) rfl ?_
      exact lc_8 C hL hj3 hZ (by omega) next
    by_cases s_9 : (xs (4 * j) &&& 31) = 9
    · refine l_tsw (y := 9) (off := 427) (tgt := 459) C dL_law_32 s_9 (by decide +kernel) rfl ?_
      exact lc_9 C hL hj3 hZ (by omega) next
    by_cases s_10 : (xs (4 * j) &&& 31) = 10
    · refine l_tsw (y := 10) (off := 460) (tgt := 492) C dL_law_32 s_10 (by decide +kernel) rfl ?_
      exact lc_10 C hL hj3 hZ (by omega) next
    by_cases s_11 : (xs (4 * j) &&& 31) = 11
    · refine l_tsw (y := 11) (off := 483) (tgt := 515) C dL_law_32 s_11 (by decide +kernel) rfl ?_
      exact lc_11 C hL hj3 hZ (by omega) next
    by_cases s_12 : (xs (4 * j) &&& 31) = 12
    · refine l_tsw (y := 12) (off := 506) (tgt := 538) C dL_law_32 s_12 (by decide +kernel) rfl ?_
      exact lc_12 C hL hj3 hZ (by omega) next
    by_cases s_13 : (xs (4 * j) &&& 31) = 13
    · refine l_tsw (y := 13) (off := 529) (tgt := 561) C dL_law_32 s_13 (by decide +kernel) rfl ?_
      exact lc_13 C hL hj3 hZ (by omega) next
    by_cases s_14 : (xs (4 * j) &&& 31) = 14
    · refine l_tsw (y := 14) (off := 562) (tgt := 594) C dL_law_32 s_14 (by decide +kernel) rfl ?_
      exact lc_14 C hL hj3 hZ (by omega) next
    by_cases s_15 : (xs (4 * j) &&& 31) = 15
    · refine l_tsw (y := 15) (off := 595) (tgt := 627) C dL_law_32 s_15 (by decide +kernel) rfl ?_
      exact lc_15 C hL hj3 hZ (by omega) next
    by_cases s_16 : (xs (4 * j) &&& 31) = 16
    · refine l_tsw (y := 16) (off := 618) (tgt := 650) C dL_law_32 s_16 (by decide +kernel) rfl ?_
      exact lc_16 C hL hj3 hZ (by omega) next
    by_cases s_17 : (xs (4 * j) &&& 31) = 17
    · refine l_tsw (y := 17) (off := 651) (tgt := 683) C dL_law_32 s_17 (by decide +kernel) rfl ?_
      exact lc_17 C hL hj3 hZ (by omega) next
    by_cases s_18 : (xs (4 * j) &&& 31) = 18
    · refine l_tsw (y := 18) (off := 664) (tgt := 696) C dL_law_32 s_18 (by decide +kernel) rfl ?_
      exact lc_18 C hL hj3 hZ (by omega) next
    by_cases s_19 : (xs (4 * j) &&& 31) = 19
    · refine l_tsw (y := 19) (off := 707) (tgt := 739) C dL_law_32 s_19 (by decide +kernel) rfl ?_
      exact lc_19 C hL hj3 hZ (by omega) next
    by_cases s_20 : (xs (4 * j) &&& 31) = 20
    · refine l_tsw (y := 20) (off := 720) (tgt := 752) C dL_law_32 s_20 (by decide +kernel) rfl ?_
      exact lc_20 C hL hj3 hZ (by omega) next
    by_cases s_21 : (xs (4 * j) &&& 31) = 21
    · refine l_tsw (y := 21) (off := 733) (tgt := 765) C dL_law_32 s_21 (by decide +kernel) rfl ?_
      exact lc_21 C hL hj3 hZ (by omega) next
    by_cases s_22 : (xs (4 * j) &&& 31) = 22
    · refine l_tsw (y := 22) (off := 746) (tgt := 778) C dL_law_32 s_22 (by decide +kernel) rfl ?_
      exact lc_22 C hL hj3 hZ (by omega) next
    by_cases s_23 : (xs (4 * j) &&& 31) = 23
    · refine l_tsw (y := 23) (off := 769) (tgt := 801) C dL_law_32 s_23 (by decide +kernel) rfl ?_
      exact lc_23 C hL hj3 hZ (by omega) next
    by_cases s_24 : (xs (4 * j) &&& 31) = 24
    · refine l_tsw (y := 24) (off := 782) (tgt := 814) C dL_law_32 s_24 (by decide +kernel) rfl ?_
      exact lc_24 C hL hj3 hZ (by omega) next
    by_cases s_25 : (xs (4 * j) &&& 31) = 25
    · refine l_tsw (y := 25) (off := 805) (tgt := 837) C dL_law_32 s_25 (by decide +kernel) rfl ?_
      exact lc_25 C hL hj3 hZ (by omega) next
    refine l_tswd (tgt := 850) (lo := 0) (cnt := 26) C dL_law_32 (fun j hj => match j, hj with | 0, _ => s_0 | 1, _ => s_1 | 2, _ => s_2 | 3, _ => s_3 | 4, _ => s_4 | 5, _ => s_5 | 6, _ => s_6 | 7, _ => s_7 | 8, _ => s_8 | 9, _ => s_9 | 10, _ => s_10 | 11, _ => s_11 | 12, _ => s_12 | 13, _ => s_13 | 14, _ => s_14 | 15, _ => s_15 | 16, _ => s_16 | 17, _ => s_17 | 18, _ => s_18 | 19, _ => s_19 | 20, _ => s_20 | 21, _ => s_21 | 22, _ => s_22 | 23, _ => s_23 | 24, _ => s_24 | 25, _ => s_25 | (j + 26), h => absurd h (by omega)) rfl rfl ?_
    exact next _ _ _ _ _ hZ (by omega)
