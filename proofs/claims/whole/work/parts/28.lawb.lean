set_option maxHeartbeats 4000000 in
set_option maxRecDepth 100000 in
theorem law_c7 {p : Program} {e : Env} {s : State} {m : MethodId} {below : List Frame} {meth : Method} {c : Code} (l : Launch) {b L : Nat} {xs : Nat → Int32} (hL : L ≤ 2048) (C0 : lw_At p s m meth c b L xs) (dC : Nat → ClassId) (dI : Nat → Nat → Nat) (h0 h1 h2 h3 g0 g1 g2 : Nat) (cA : ClassId) (t0 t1 t2 t3 : Nat) (hT : xtab t0 t1 t2 t3 (fun q : Nat => s.heap.size ≤ q) s s.heap) (hK : va_K (dC, dI) vwCl [(cA, .int)] s) (i : Nat) (hi : i + 4 ≤ L) (kk : ∀ (tx : Nat → Int32) (n : Nat) (ch pl : Nat → Int32) (k : Nat) (rl : Int32) (fp : Int32) (tb kb : Nat → Nat) (ln : Nat) (rd : Bool) (st : Nat) (mt bg : Int32) (mf bf sg : Nat → Nat) (H : Heap) (locs : List Loc) (ls : Array Slot), Rel tx n ch pl k rl rd tb kb ln mf bf sg → va_P (dC, dI) vwCl (xw h0 h1 h2 h3 cA (tx, n, ch, pl, k, rl, fp) ++ mw g0 g1 g2 cA (tb, n, kb, ln, rd, fp, st, mt, bg)) H → va_D (fun q : Nat => s.heap.size ≤ q) (xw h0 h1 h2 h3 cA (tx, n, ch, pl, k, rl, fp) ++ mw g0 g1 g2 cA (tb, n, kb, ln, rd, fp, st, mt, bg)) → va_S (fun q : Nat => s.heap.size ≤ q) s.heap H locs → lv_has ls 4 [(3, .int (nI i)), (0, .ref b), (1, .ref h0), (2, .ref g0)] → W p l e room_1 s m #[Value.ref b] below meth c H locs 7 5016 (lw_Z below #[Value.ref b] s) (F0 m 369 ls [])) (tx : Nat → Int32) (n : Nat) (ch pl : Nat → Int32) (k : Nat) (rl : Int32) (fp : Int32) (tb kb : Nat → Nat) (ln : Nat) (rd : Bool) (st : Nat) (mt bg : Int32) (mf bf sg : Nat → Nat) (H : Heap) (locs : List Loc) (ls : Array Slot) (R0 : Rel tx n ch pl k rl rd tb kb ln mf bf sg) (hP : va_P (dC, dI) vwCl (xw h0 h1 h2 h3 cA (tx, n, ch, pl, k, rl, fp) ++ mw g0 g1 g2 cA (tb, n, kb, ln, rd, fp, st, mt, bg)) H) (hD : va_D (fun q : Nat => s.heap.size ≤ q) (xw h0 h1 h2 h3 cA (tx, n, ch, pl, k, rl, fp) ++ mw g0 g1 g2 cA (tb, n, kb, ln, rd, fp, st, mt, bg))) (hS : va_S (fun q : Nat => s.heap.size ≤ q) s.heap H locs) (hl : lv_has ls 4 [(3, .int (nI i)), (0, .ref b), (1, .ref h0), (2, .ref g0)]) : W p l e room_1 s m #[Value.ref b] below meth c H locs 7 5016 (lw_Z below #[Value.ref b] s) (F0 m 269 ls []) := by
  obtain ⟨hx, hb, hr, hml, hown0, hts, hX, hbl, hlocks, hgv⟩ := id C0
  have hown : s.vm.findClass RL = some m.cls := hown0
  have hA : ∀ q : Nat, s.heap.size ≤ q → (fun q : Nat => s.heap.size ≤ q) q := fun _ h => h
  have hbA : ¬ (fun q : Nat => s.heap.size ≤ q) b := Nat.not_le.mpr hbl
  have htsL : ∀ w ∈ wsL_law, w.before #[Value.ref b] s = true := fun w h => hts w (wsL_law_in w h)
  obtain ⟨hn, htx, htb, hkb, hln, hk, hch, hvc, hvp, hpk, hk0, hr0⟩ := id R0
  refine lv_aload_n hx hb dL_law_269 rfl (lv_at hl 2 rfl) ?_
  refine lv_aload_n hx hb dL_law_270 rfl (lv_at hl 1 rfl) ?_
  refine lv_iload_n hx hb dL_law_271 rfl (lv_at hl 0 rfl) ?_
  refine lv_iconst (v := 1) hx hb dL_law_272 (by decide) ?_
  refine lv_iadd hx hb dL_law_273 ?_
  refine lv_topi (fun x_1 ex_1 => ?_)
  obtain rfl : x_1 = nI (i + 1) := ex_1.trans (nI_add i 1)
  refine va_sld hx hb hX hbl hbA hS (vp_in_nI (by omega) (by omega)) dL_law_274 ?_
  refine lv_topi (fun x_2 ex_2 => ?_)
  obtain rfl : x_2 = xs (i + 1) := ex_2.trans (by rw [nI_clamp (by omega)])
  refine lv_aload_n hx hb dL_law_275 rfl (lv_at hl 1 rfl) ?_
  refine lv_iload_n hx hb dL_law_276 rfl (lv_at hl 0 rfl) ?_
  refine lv_iconst (v := 2) hx hb dL_law_277 (by decide) ?_
  refine lv_iadd hx hb dL_law_278 ?_
  refine lv_topi (fun x_3 ex_3 => ?_)
  obtain rfl : x_3 = nI (i + 2) := ex_3.trans (nI_add i 2)
  refine va_sld hx hb hX hbl hbA hS (vp_in_nI (by omega) (by omega)) dL_law_279 ?_
  refine lv_topi (fun x_4 ex_4 => ?_)
  obtain rfl : x_4 = xs (i + 2) := ex_4.trans (by rw [nI_clamp (by omega)])
  refine vp_callSi (W.runV (As := [.int (xs (i + 1)), .int (xs (i + 2))]) (rest := []) ⟨hx, hb, hml, hown, htsL⟩ (c_X0_run l dC dI h0 h1 h2 h3 cA t0 t1 t2 t3 tx n ch pl k rl fp (xs (i + 1)) (xs (i + 2)) hk) (cwV 2 htsL gL_law_X0_run rfl rfl rfl (by decide +kernel) ⟨Nat.le_of_ble_eq_true rfl, Nat.le_of_ble_eq_true rfl⟩) ⟨xpre_blind, va_recv hK hP (ci := 0) (q0 := 0) rfl rfl, fun U hU hW => ⟨rfl, xpre_of (hP.sub (ws' := xw h0 h1 h2 h3 cA (tx, n, ch, pl, k, rl, fp)) [0, 1, 2, 3] rfl) hK hT hS hU hW⟩⟩ rfl rfl hl.1 rfl (lv_room (Nat.le_of_ble_eq_true rfl)) dL_law_280 ⟨Nat.le_of_ble_eq_true rfl, Nat.le_of_ble_eq_true rfl⟩) (fun r_5 er_5 => ?_)
  obtain rfl : r_5 = xRun ch k (xs (i + 1)) (xs (i + 2)) := er_5
  refine lv_aload_n hx hb dL_law_283 rfl (lv_at hl 3 rfl) ?_
  refine lv_aload_n hx hb dL_law_284 rfl (lv_at hl 1 rfl) ?_
  refine lv_iload_n hx hb dL_law_285 rfl (lv_at hl 0 rfl) ?_
  refine lv_iconst (v := 1) hx hb dL_law_286 (by decide) ?_
  refine lv_iadd hx hb dL_law_287 ?_
  refine lv_topi (fun x_6 ex_6 => ?_)
  obtain rfl : x_6 = nI (i + 1) := ex_6.trans (nI_add i 1)
  refine va_sld hx hb hX hbl hbA hS (vp_in_nI (by omega) (by omega)) dL_law_288 ?_
  refine lv_topi (fun x_7 ex_7 => ?_)
  obtain rfl : x_7 = xs (i + 1) := ex_7.trans (by rw [nI_clamp (by omega)])
  refine lv_aload_n hx hb dL_law_289 rfl (lv_at hl 1 rfl) ?_
  refine lv_iload_n hx hb dL_law_290 rfl (lv_at hl 0 rfl) ?_
  refine lv_iconst (v := 2) hx hb dL_law_291 (by decide) ?_
  refine lv_iadd hx hb dL_law_292 ?_
  refine lv_topi (fun x_8 ex_8 => ?_)
  obtain rfl : x_8 = nI (i + 2) := ex_8.trans (nI_add i 2)
  refine va_sld hx hb hX hbl hbA hS (vp_in_nI (by omega) (by omega)) dL_law_293 ?_
  refine lv_topi (fun x_9 ex_9 => ?_)
  obtain rfl : x_9 = xs (i + 2) := ex_9.trans (by rw [nI_clamp (by omega)])
  have hFc := va_free (wc := mw g0 g1 g2 cA (tb, n, kb, ln, rd, fp, st, mt, bg)) hD hS hA [4, 5, 6] rfl
  refine va_calli (va_runV (As := [.int (xs (i + 1)), .int (xs (i + 2))]) (rest := [.int (xRun ch k (xs (i + 1)) (xs (i + 2)))]) ⟨hx, hb, hml, hown, hts⟩ (c_X1_run l dC dI g0 g1 g2 cA H.size tb n kb ln rd fp st mt bg hkb hln k hk mf bf sg hch (xs (i + 1)) (xs (i + 2)) (xRun ch k (xs (i + 1)) (xs (i + 2))) (run_case hk hvc hk0 (xs (i + 1)) (xs (i + 2)))) (cwV 2 hts gL_law_X1_run rfl rfl rfl (by decide +kernel) ⟨Nat.le_of_ble_eq_true rfl, Nat.le_of_ble_eq_true rfl⟩) ⟨mmut_blind, va_recv hK hP (ci := 1) (q0 := 4) rfl rfl, fun U hU hW => ⟨rfl, mmut_of (hP.sub (ws' := mw g0 g1 g2 cA (tb, n, kb, ln, rd, fp, st, mt, bg)) [4, 5, 6] rfl) hK (hD.sub (ws' := mw g0 g1 g2 cA (tb, n, kb, ln, rd, fp, st, mt, bg)) [4, 5, 6] (by decide) rfl) hU hW⟩⟩ rfl rfl hl.1 rfl (lv_room (Nat.le_of_ble_eq_true rfl)) dL_law_294 ⟨Nat.le_of_ble_eq_true rfl, Nat.le_of_ble_eq_true rfl⟩) hS (fun q _ h => hFc q h) hFc (fun r_10 u_10 t_10 H1 locs ht hvm hw hB hz1 hk1 hS => ?_)
  obtain ⟨hw0, st_10, mt_10, bg_10, hw1⟩ := hw
  obtain rfl : r_10 = xRun ch k (xs (i + 1)) (xs (i + 2)) := hw0
  obtain rfl : u_10 = (tb, n, kb, ln, rd, fp, st_10, mt_10, bg_10) := hw1
  obtain ⟨hP1, hK1, hD1⟩ := hB
  rw [ht] at hP1
  obtain ⟨hP, hD⟩ := va_join (wr := xw h0 h1 h2 h3 cA (tx, n, ch, pl, k, rl, fp)) (w1 := mw g0 g1 g2 cA (tb, n, kb, ln, rd, fp, st_10, mt_10, bg_10)) hP hD [4, 5, 6] [0, 1, 2, 3] rfl rfl (by decide) (by decide) hk1 hFc hP1 hD1
  generalize H1 = H at hP hS ⊢
  have hP : va_P (dC, dI) vwCl (xw h0 h1 h2 h3 cA (tx, n, ch, pl, k, rl, fp) ++ mw g0 g1 g2 cA (tb, n, kb, ln, rd, fp, st_10, mt_10, bg_10)) H := hP
  have hD : va_D (fun q : Nat => s.heap.size ≤ q) (xw h0 h1 h2 h3 cA (tx, n, ch, pl, k, rl, fp) ++ mw g0 g1 g2 cA (tb, n, kb, ln, rd, fp, st_10, mt_10, bg_10)) := hD
  refine lv_icmp_eq (tgt := 369) hx hb dL_law_297 (by decide) (fun c_11 => ?_) (fun c_11 => ?_)
  · exact kk tx n ch pl k rl fp tb kb ln rd st_10 mt_10 bg_10 mf bf sg H locs ls R0 hP hD hS (lv_sub hl [0, 1, 2, 3] rfl)
  · exact absurd rfl c_11
set_option maxHeartbeats 4000000 in
set_option maxRecDepth 100000 in
theorem law_c8 {p : Program} {e : Env} {s : State} {m : MethodId} {below : List Frame} {meth : Method} {c : Code} (l : Launch) {b L : Nat} {xs : Nat → Int32} (hL : L ≤ 2048) (C0 : lw_At p s m meth c b L xs) (dC : Nat → ClassId) (dI : Nat → Nat → Nat) (h0 h1 h2 h3 g0 g1 g2 : Nat) (cA : ClassId) (t0 t1 t2 t3 : Nat) (hT : xtab t0 t1 t2 t3 (fun q : Nat => s.heap.size ≤ q) s s.heap) (hK : va_K (dC, dI) vwCl [(cA, .int)] s) (i : Nat) (hi : i + 4 ≤ L) (kk : ∀ (tx : Nat → Int32) (n : Nat) (ch pl : Nat → Int32) (k : Nat) (rl : Int32) (fp : Int32) (tb kb : Nat → Nat) (ln : Nat) (rd : Bool) (st : Nat) (mt bg : Int32) (mf bf sg : Nat → Nat) (H : Heap) (locs : List Loc) (ls : Array Slot), Rel tx n ch pl k rl rd tb kb ln mf bf sg → va_P (dC, dI) vwCl (xw h0 h1 h2 h3 cA (tx, n, ch, pl, k, rl, fp) ++ mw g0 g1 g2 cA (tb, n, kb, ln, rd, fp, st, mt, bg)) H → va_D (fun q : Nat => s.heap.size ≤ q) (xw h0 h1 h2 h3 cA (tx, n, ch, pl, k, rl, fp) ++ mw g0 g1 g2 cA (tb, n, kb, ln, rd, fp, st, mt, bg)) → va_S (fun q : Nat => s.heap.size ≤ q) s.heap H locs → lv_has ls 4 [(3, .int (nI i)), (0, .ref b), (1, .ref h0), (2, .ref g0)] → W p l e room_1 s m #[Value.ref b] below meth c H locs 7 5016 (lw_Z below #[Value.ref b] s) (F0 m 369 ls [])) (tx : Nat → Int32) (n : Nat) (ch pl : Nat → Int32) (k : Nat) (rl : Int32) (fp : Int32) (tb kb : Nat → Nat) (ln : Nat) (rd : Bool) (st : Nat) (mt bg : Int32) (mf bf sg : Nat → Nat) (H : Heap) (locs : List Loc) (ls : Array Slot) (R0 : Rel tx n ch pl k rl rd tb kb ln mf bf sg) (hP : va_P (dC, dI) vwCl (xw h0 h1 h2 h3 cA (tx, n, ch, pl, k, rl, fp) ++ mw g0 g1 g2 cA (tb, n, kb, ln, rd, fp, st, mt, bg)) H) (hD : va_D (fun q : Nat => s.heap.size ≤ q) (xw h0 h1 h2 h3 cA (tx, n, ch, pl, k, rl, fp) ++ mw g0 g1 g2 cA (tb, n, kb, ln, rd, fp, st, mt, bg))) (hS : va_S (fun q : Nat => s.heap.size ≤ q) s.heap H locs) (hl : lv_has ls 4 [(3, .int (nI i)), (0, .ref b), (1, .ref h0), (2, .ref g0)]) : W p l e room_1 s m #[Value.ref b] below meth c H locs 7 5016 (lw_Z below #[Value.ref b] s) (F0 m 302 ls []) := by
  obtain ⟨hx, hb, hr, hml, hown0, hts, hX, hbl, hlocks, hgv⟩ := id C0
  have hown : s.vm.findClass RL = some m.cls := hown0
  have hA : ∀ q : Nat, s.heap.size ≤ q → (fun q : Nat => s.heap.size ≤ q) q := fun _ h => h
  have hbA : ¬ (fun q : Nat => s.heap.size ≤ q) b := Nat.not_le.mpr hbl
  have htsL : ∀ w ∈ wsL_law, w.before #[Value.ref b] s = true := fun w h => hts w (wsL_law_in w h)
  obtain ⟨hn, htx, htb, hkb, hln, hk, hch, hvc, hvp, hpk, hk0, hr0⟩ := id R0
  refine lv_aload_n hx hb dL_law_302 rfl (lv_at hl 2 rfl) ?_
  refine lv_aload_n hx hb dL_law_303 rfl (lv_at hl 1 rfl) ?_
  refine lv_iload_n hx hb dL_law_304 rfl (lv_at hl 0 rfl) ?_
  refine lv_iconst (v := 1) hx hb dL_law_305 (by decide) ?_
  refine lv_iadd hx hb dL_law_306 ?_
  refine lv_topi (fun x_1 ex_1 => ?_)
  obtain rfl : x_1 = nI (i + 1) := ex_1.trans (nI_add i 1)
  refine va_sld hx hb hX hbl hbA hS (vp_in_nI (by omega) (by omega)) dL_law_307 ?_
  refine lv_topi (fun x_2 ex_2 => ?_)
  obtain rfl : x_2 = xs (i + 1) := ex_2.trans (by rw [nI_clamp (by omega)])
  refine lv_aload_n hx hb dL_law_308 rfl (lv_at hl 1 rfl) ?_
  refine lv_iload_n hx hb dL_law_309 rfl (lv_at hl 0 rfl) ?_
  refine lv_iconst (v := 2) hx hb dL_law_310 (by decide) ?_
  refine lv_iadd hx hb dL_law_311 ?_
  refine lv_topi (fun x_3 ex_3 => ?_)
  obtain rfl : x_3 = nI (i + 2) := ex_3.trans (nI_add i 2)
  refine va_sld hx hb hX hbl hbA hS (vp_in_nI (by omega) (by omega)) dL_law_312 ?_
  refine lv_topi (fun x_4 ex_4 => ?_)
  obtain rfl : x_4 = xs (i + 2) := ex_4.trans (by rw [nI_clamp (by omega)])
  refine lv_aload_n hx hb dL_law_313 rfl (lv_at hl 1 rfl) ?_
  refine lv_iload_n hx hb dL_law_314 rfl (lv_at hl 0 rfl) ?_
  refine lv_iconst (v := 3) hx hb dL_law_315 (by decide) ?_
  refine lv_iadd hx hb dL_law_316 ?_
  refine lv_topi (fun x_5 ex_5 => ?_)
  obtain rfl : x_5 = nI (i + 3) := ex_5.trans (nI_add i 3)
  refine va_sld hx hb hX hbl hbA hS (vp_in_nI (by omega) (by omega)) dL_law_317 ?_
  refine lv_topi (fun x_6 ex_6 => ?_)
  obtain rfl : x_6 = xs (i + 3) := ex_6.trans (by rw [nI_clamp (by omega)])
  refine vp_callSi (W.runV (As := [.int (xs (i + 1)), .int (xs (i + 2)), .int (xs (i + 3))]) (rest := []) ⟨hx, hb, hml, hown, htsL⟩ (c_X0_compare l dC dI h0 h1 h2 h3 cA t0 t1 t2 t3 tx n ch pl k rl fp (xs (i + 1)) (xs (i + 2)) (xs (i + 3)) hk) (cwV 3 htsL gL_law_X0_compare rfl rfl rfl (by decide +kernel) ⟨Nat.le_of_ble_eq_true rfl, Nat.le_of_ble_eq_true rfl⟩) ⟨xpre_blind, va_recv hK hP (ci := 0) (q0 := 0) rfl rfl, fun U hU hW => ⟨rfl, xpre_of (hP.sub (ws' := xw h0 h1 h2 h3 cA (tx, n, ch, pl, k, rl, fp)) [0, 1, 2, 3] rfl) hK hT hS hU hW⟩⟩ rfl rfl hl.1 rfl (lv_room (Nat.le_of_ble_eq_true rfl)) dL_law_318 ⟨Nat.le_of_ble_eq_true rfl, Nat.le_of_ble_eq_true rfl⟩) (fun r_7 er_7 => ?_)
  obtain rfl : r_7 = xCmp ch rl k (xs (i + 1)) (xs (i + 2)) (xs (i + 3)) := er_7
  refine lv_aload_n hx hb dL_law_321 rfl (lv_at hl 3 rfl) ?_
  refine lv_aload_n hx hb dL_law_322 rfl (lv_at hl 1 rfl) ?_
  refine lv_iload_n hx hb dL_law_323 rfl (lv_at hl 0 rfl) ?_
  refine lv_iconst (v := 1) hx hb dL_law_324 (by decide) ?_
  refine lv_iadd hx hb dL_law_325 ?_
  refine lv_topi (fun x_8 ex_8 => ?_)
  obtain rfl : x_8 = nI (i + 1) := ex_8.trans (nI_add i 1)
  refine va_sld hx hb hX hbl hbA hS (vp_in_nI (by omega) (by omega)) dL_law_326 ?_
  refine lv_topi (fun x_9 ex_9 => ?_)
  obtain rfl : x_9 = xs (i + 1) := ex_9.trans (by rw [nI_clamp (by omega)])
  refine lv_aload_n hx hb dL_law_327 rfl (lv_at hl 1 rfl) ?_
  refine lv_iload_n hx hb dL_law_328 rfl (lv_at hl 0 rfl) ?_
  refine lv_iconst (v := 2) hx hb dL_law_329 (by decide) ?_
  refine lv_iadd hx hb dL_law_330 ?_
  refine lv_topi (fun x_10 ex_10 => ?_)
  obtain rfl : x_10 = nI (i + 2) := ex_10.trans (nI_add i 2)
  refine va_sld hx hb hX hbl hbA hS (vp_in_nI (by omega) (by omega)) dL_law_331 ?_
  refine lv_topi (fun x_11 ex_11 => ?_)
  obtain rfl : x_11 = xs (i + 2) := ex_11.trans (by rw [nI_clamp (by omega)])
  refine lv_aload_n hx hb dL_law_332 rfl (lv_at hl 1 rfl) ?_
  refine lv_iload_n hx hb dL_law_333 rfl (lv_at hl 0 rfl) ?_
  refine lv_iconst (v := 3) hx hb dL_law_334 (by decide) ?_
  refine lv_iadd hx hb dL_law_335 ?_
  refine lv_topi (fun x_12 ex_12 => ?_)
  obtain rfl : x_12 = nI (i + 3) := ex_12.trans (nI_add i 3)
  refine va_sld hx hb hX hbl hbA hS (vp_in_nI (by omega) (by omega)) dL_law_336 ?_
  refine lv_topi (fun x_13 ex_13 => ?_)
  obtain rfl : x_13 = xs (i + 3) := ex_13.trans (by rw [nI_clamp (by omega)])
  have hFc := va_free (wc := mw g0 g1 g2 cA (tb, n, kb, ln, rd, fp, st, mt, bg)) hD hS hA [4, 5, 6] rfl
  refine va_calli (va_runV (As := [.int (xs (i + 1)), .int (xs (i + 2)), .int (xs (i + 3))]) (rest := [.int (xCmp ch rl k (xs (i + 1)) (xs (i + 2)) (xs (i + 3)))]) ⟨hx, hb, hml, hown, hts⟩ (c_X1_compare l dC dI g0 g1 g2 cA H.size tb n kb ln rd fp st mt bg hkb hln k hk mf bf sg hch (xs (i + 1)) (xs (i + 2)) (xs (i + 3)) (xCmp ch rl k (xs (i + 1)) (xs (i + 2)) (xs (i + 3))) (cmp_case hk hvc hln hpk hr0 (xs (i + 1)) (xs (i + 2)) (xs (i + 3)))) (cwV 3 hts gL_law_X1_compare rfl rfl rfl (by decide +kernel) ⟨Nat.le_of_ble_eq_true rfl, Nat.le_of_ble_eq_true rfl⟩) ⟨mmut_blind, va_recv hK hP (ci := 1) (q0 := 4) rfl rfl, fun U hU hW => ⟨rfl, mmut_of (hP.sub (ws' := mw g0 g1 g2 cA (tb, n, kb, ln, rd, fp, st, mt, bg)) [4, 5, 6] rfl) hK (hD.sub (ws' := mw g0 g1 g2 cA (tb, n, kb, ln, rd, fp, st, mt, bg)) [4, 5, 6] (by decide) rfl) hU hW⟩⟩ rfl rfl hl.1 rfl (lv_room (Nat.le_of_ble_eq_true rfl)) dL_law_337 ⟨Nat.le_of_ble_eq_true rfl, Nat.le_of_ble_eq_true rfl⟩) hS (fun q _ h => hFc q h) hFc (fun r_14 u_14 t_14 H1 locs ht hvm hw hB hz1 hk1 hS => ?_)
  obtain ⟨hw0, st_14, mt_14, bg_14, hw1⟩ := hw
  obtain rfl : r_14 = xCmp ch rl k (xs (i + 1)) (xs (i + 2)) (xs (i + 3)) := hw0
  obtain rfl : u_14 = (tb, n, kb, ln, rd, fp, st_14, mt_14, bg_14) := hw1
  obtain ⟨hP1, hK1, hD1⟩ := hB
  rw [ht] at hP1
  obtain ⟨hP, hD⟩ := va_join (wr := xw h0 h1 h2 h3 cA (tx, n, ch, pl, k, rl, fp)) (w1 := mw g0 g1 g2 cA (tb, n, kb, ln, rd, fp, st_14, mt_14, bg_14)) hP hD [4, 5, 6] [0, 1, 2, 3] rfl rfl (by decide) (by decide) hk1 hFc hP1 hD1
  generalize H1 = H at hP hS ⊢
  have hP : va_P (dC, dI) vwCl (xw h0 h1 h2 h3 cA (tx, n, ch, pl, k, rl, fp) ++ mw g0 g1 g2 cA (tb, n, kb, ln, rd, fp, st_14, mt_14, bg_14)) H := hP
  have hD : va_D (fun q : Nat => s.heap.size ≤ q) (xw h0 h1 h2 h3 cA (tx, n, ch, pl, k, rl, fp) ++ mw g0 g1 g2 cA (tb, n, kb, ln, rd, fp, st_14, mt_14, bg_14)) := hD
  refine lv_icmp_eq (tgt := 369) hx hb dL_law_340 (by decide) (fun c_15 => ?_) (fun c_15 => ?_)
  · exact kk tx n ch pl k rl fp tb kb ln rd st_14 mt_14 bg_14 mf bf sg H locs ls R0 hP hD hS (lv_sub hl [0, 1, 2, 3] rfl)
  · exact absurd rfl c_15
set_option maxHeartbeats 4000000 in
set_option maxRecDepth 100000 in
theorem law_c9 {p : Program} {e : Env} {s : State} {m : MethodId} {below : List Frame} {meth : Method} {c : Code} (l : Launch) {b L : Nat} {xs : Nat → Int32} (hL : L ≤ 2048) (C0 : lw_At p s m meth c b L xs) (dC : Nat → ClassId) (dI : Nat → Nat → Nat) (h0 h1 h2 h3 g0 g1 g2 : Nat) (cA : ClassId) (t0 t1 t2 t3 : Nat) (hT : xtab t0 t1 t2 t3 (fun q : Nat => s.heap.size ≤ q) s s.heap) (hK : va_K (dC, dI) vwCl [(cA, .int)] s) (i : Nat) (hi : i + 4 ≤ L) (kk : ∀ (tx : Nat → Int32) (n : Nat) (ch pl : Nat → Int32) (k : Nat) (rl : Int32) (fp : Int32) (tb kb : Nat → Nat) (ln : Nat) (rd : Bool) (st : Nat) (mt bg : Int32) (mf bf sg : Nat → Nat) (H : Heap) (locs : List Loc) (ls : Array Slot), Rel tx n ch pl k rl rd tb kb ln mf bf sg → va_P (dC, dI) vwCl (xw h0 h1 h2 h3 cA (tx, n, ch, pl, k, rl, fp) ++ mw g0 g1 g2 cA (tb, n, kb, ln, rd, fp, st, mt, bg)) H → va_D (fun q : Nat => s.heap.size ≤ q) (xw h0 h1 h2 h3 cA (tx, n, ch, pl, k, rl, fp) ++ mw g0 g1 g2 cA (tb, n, kb, ln, rd, fp, st, mt, bg)) → va_S (fun q : Nat => s.heap.size ≤ q) s.heap H locs → lv_has ls 4 [(3, .int (nI i)), (0, .ref b), (1, .ref h0), (2, .ref g0)] → W p l e room_1 s m #[Value.ref b] below meth c H locs 7 5016 (lw_Z below #[Value.ref b] s) (F0 m 369 ls [])) (tx : Nat → Int32) (n : Nat) (ch pl : Nat → Int32) (k : Nat) (rl : Int32) (fp : Int32) (tb kb : Nat → Nat) (ln : Nat) (rd : Bool) (st : Nat) (mt bg : Int32) (mf bf sg : Nat → Nat) (H : Heap) (locs : List Loc) (ls : Array Slot) (R0 : Rel tx n ch pl k rl rd tb kb ln mf bf sg) (hP : va_P (dC, dI) vwCl (xw h0 h1 h2 h3 cA (tx, n, ch, pl, k, rl, fp) ++ mw g0 g1 g2 cA (tb, n, kb, ln, rd, fp, st, mt, bg)) H) (hD : va_D (fun q : Nat => s.heap.size ≤ q) (xw h0 h1 h2 h3 cA (tx, n, ch, pl, k, rl, fp) ++ mw g0 g1 g2 cA (tb, n, kb, ln, rd, fp, st, mt, bg))) (hS : va_S (fun q : Nat => s.heap.size ≤ q) s.heap H locs) (hl : lv_has ls 4 [(3, .int (nI i)), (0, .ref b), (1, .ref h0), (2, .ref g0)]) : W p l e room_1 s m #[Value.ref b] below meth c H locs 7 5016 (lw_Z below #[Value.ref b] s) (F0 m 345 ls []) := by
  obtain ⟨hx, hb, hr, hml, hown0, hts, hX, hbl, hlocks, hgv⟩ := id C0
  have hown : s.vm.findClass RL = some m.cls := hown0
  have hA : ∀ q : Nat, s.heap.size ≤ q → (fun q : Nat => s.heap.size ≤ q) q := fun _ h => h
  have hbA : ¬ (fun q : Nat => s.heap.size ≤ q) b := Nat.not_le.mpr hbl
  have htsL : ∀ w ∈ wsL_law, w.before #[Value.ref b] s = true := fun w h => hts w (wsL_law_in w h)
  obtain ⟨hn, htx, htb, hkb, hln, hk, hch, hvc, hvp, hpk, hk0, hr0⟩ := id R0
  cases hh : mHas (xs (i + 1)) with
  | false =>
    refine lv_aload_n hx hb dL_law_345 rfl (lv_at hl 2 rfl) ?_
    refine lv_aload_n hx hb dL_law_346 rfl (lv_at hl 1 rfl) ?_
    refine lv_iload_n hx hb dL_law_347 rfl (lv_at hl 0 rfl) ?_
    refine lv_iconst (v := 1) hx hb dL_law_348 (by decide) ?_
    refine lv_iadd hx hb dL_law_349 ?_
    refine lv_topi (fun x_1 ex_1 => ?_)
    obtain rfl : x_1 = nI (i + 1) := ex_1.trans (nI_add i 1)
    refine va_sld hx hb hX hbl hbA hS (vp_in_nI (by omega) (by omega)) dL_law_350 ?_
    refine lv_topi (fun x_2 ex_2 => ?_)
    obtain rfl : x_2 = xs (i + 1) := ex_2.trans (by rw [nI_clamp (by omega)])
    refine vp_callSl (W.runV (As := [.int (xs (i + 1))]) (rest := []) ⟨hx, hb, hml, hown, htsL⟩ (c_X0_bytes l dC dI h0 h1 h2 h3 cA t0 t1 t2 t3 tx n ch pl k rl fp (xs (i + 1))) (cwV 1 htsL gL_law_X0_bytes rfl rfl rfl (by decide +kernel) ⟨Nat.le_of_ble_eq_true rfl, Nat.le_of_ble_eq_true rfl⟩) ⟨xpre_blind, va_recv hK hP (ci := 0) (q0 := 0) rfl rfl, fun U hU hW => ⟨rfl, xpre_of (hP.sub (ws' := xw h0 h1 h2 h3 cA (tx, n, ch, pl, k, rl, fp)) [0, 1, 2, 3] rfl) hK hT hS hU hW⟩⟩ rfl rfl hl.1 rfl (lv_room (Nat.le_of_ble_eq_true rfl)) dL_law_351 ⟨Nat.le_of_ble_eq_true rfl, Nat.le_of_ble_eq_true rfl⟩) (fun r_3 er_3 => ?_)
    obtain rfl : r_3 = xBytes (xs (i + 1)) := er_3
    refine lv_aload_n hx hb dL_law_354 rfl (lv_at hl 3 rfl) ?_
    refine lv_aload_n hx hb dL_law_355 rfl (lv_at hl 1 rfl) ?_
    refine lv_iload_n hx hb dL_law_356 rfl (lv_at hl 0 rfl) ?_
    refine lv_iconst (v := 1) hx hb dL_law_357 (by decide) ?_
    refine lv_iadd hx hb dL_law_358 ?_
    refine lv_topi (fun x_4 ex_4 => ?_)
    obtain rfl : x_4 = nI (i + 1) := ex_4.trans (nI_add i 1)
    refine va_sld hx hb hX hbl hbA hS (vp_in_nI (by omega) (by omega)) dL_law_359 ?_
    refine lv_topi (fun x_5 ex_5 => ?_)
    obtain rfl : x_5 = xs (i + 1) := ex_5.trans (by rw [nI_clamp (by omega)])
    refine vp_callSl (W.runV (As := [.int (xs (i + 1))]) (rest := [.long (xBytes (xs (i + 1)))]) ⟨hx, hb, hml, hown, hts⟩ (c_X1_bytes_no l dC dI g0 g1 g2 cA tb n kb ln rd fp st mt bg (xs (i + 1)) hh) (cwV 1 hts gL_law_X1_bytes rfl rfl rfl (by decide +kernel) ⟨Nat.le_of_ble_eq_true rfl, Nat.le_of_ble_eq_true rfl⟩) ⟨mpre_blind, va_recv hK hP (ci := 1) (q0 := 4) rfl rfl, fun U hU hW => ⟨rfl, mpre_of (hP.sub (ws' := mw g0 g1 g2 cA (tb, n, kb, ln, rd, fp, st, mt, bg)) [4, 5, 6] rfl) hK hU hW⟩⟩ rfl rfl hl.1 rfl (lv_room (Nat.le_of_ble_eq_true rfl)) dL_law_360 ⟨Nat.le_of_ble_eq_true rfl, Nat.le_of_ble_eq_true rfl⟩) (fun r_6 er_6 => ?_)
    obtain rfl : r_6 = 0 := er_6
    rw [bytes_no hh]
    refine W.lcmp hx hb dL_law_363 ?_
    refine lv_if_eq (tgt := 369) hx hb dL_law_364 (by decide) (fun c_7 => ?_) (fun c_7 => ?_)
    · exact kk tx n ch pl k rl fp tb kb ln rd st mt bg mf bf sg H locs ls R0 hP hD hS (lv_sub hl [0, 1, 2, 3] rfl)
    · exact absurd (lcmp_self _) c_7
  | true =>
    obtain ⟨cc, hcc, hce⟩ := mHas_nat hh
    refine lv_aload_n hx hb dL_law_345 rfl (lv_at hl 2 rfl) ?_
    refine lv_aload_n hx hb dL_law_346 rfl (lv_at hl 1 rfl) ?_
    refine lv_iload_n hx hb dL_law_347 rfl (lv_at hl 0 rfl) ?_
    refine lv_iconst (v := 1) hx hb dL_law_348 (by decide) ?_
    refine lv_iadd hx hb dL_law_349 ?_
    refine lv_topi (fun x_8 ex_8 => ?_)
    obtain rfl : x_8 = nI (i + 1) := ex_8.trans (nI_add i 1)
    refine va_sld hx hb hX hbl hbA hS (vp_in_nI (by omega) (by omega)) dL_law_350 ?_
    refine lv_topi (fun x_9 ex_9 => ?_)
    obtain rfl : x_9 = xs (i + 1) := ex_9.trans (by rw [nI_clamp (by omega)])
    refine vp_callSl (W.runV (As := [.int (xs (i + 1))]) (rest := []) ⟨hx, hb, hml, hown, htsL⟩ (c_X0_bytes l dC dI h0 h1 h2 h3 cA t0 t1 t2 t3 tx n ch pl k rl fp (xs (i + 1))) (cwV 1 htsL gL_law_X0_bytes rfl rfl rfl (by decide +kernel) ⟨Nat.le_of_ble_eq_true rfl, Nat.le_of_ble_eq_true rfl⟩) ⟨xpre_blind, va_recv hK hP (ci := 0) (q0 := 0) rfl rfl, fun U hU hW => ⟨rfl, xpre_of (hP.sub (ws' := xw h0 h1 h2 h3 cA (tx, n, ch, pl, k, rl, fp)) [0, 1, 2, 3] rfl) hK hT hS hU hW⟩⟩ rfl rfl hl.1 rfl (lv_room (Nat.le_of_ble_eq_true rfl)) dL_law_351 ⟨Nat.le_of_ble_eq_true rfl, Nat.le_of_ble_eq_true rfl⟩) (fun r_10 er_10 => ?_)
    obtain rfl : r_10 = xBytes (xs (i + 1)) := er_10
    refine lv_aload_n hx hb dL_law_354 rfl (lv_at hl 3 rfl) ?_
    refine lv_aload_n hx hb dL_law_355 rfl (lv_at hl 1 rfl) ?_
    refine lv_iload_n hx hb dL_law_356 rfl (lv_at hl 0 rfl) ?_
    refine lv_iconst (v := 1) hx hb dL_law_357 (by decide) ?_
    refine lv_iadd hx hb dL_law_358 ?_
    refine lv_topi (fun x_11 ex_11 => ?_)
    obtain rfl : x_11 = nI (i + 1) := ex_11.trans (nI_add i 1)
    refine va_sld hx hb hX hbl hbA hS (vp_in_nI (by omega) (by omega)) dL_law_359 ?_
    refine lv_topi (fun x_12 ex_12 => ?_)
    obtain rfl : x_12 = xs (i + 1) := ex_12.trans (by rw [nI_clamp (by omega)])
    rw [hce]
    refine vp_callSl (W.runV (As := [.int (nI cc)]) (rest := [.long (xBytes (nI cc))]) ⟨hx, hb, hml, hown, hts⟩ (c_X1_bytes_ok l dC dI g0 g1 g2 cA tb n kb ln rd fp st mt bg cc hcc (by rw [← hce]; exact hh)) (cwV 1 hts gL_law_X1_bytes rfl rfl rfl (by decide +kernel) ⟨Nat.le_of_ble_eq_true rfl, Nat.le_of_ble_eq_true rfl⟩) ⟨mpre_blind, va_recv hK hP (ci := 1) (q0 := 4) rfl rfl, fun U hU hW => ⟨rfl, mpre_of (hP.sub (ws' := mw g0 g1 g2 cA (tb, n, kb, ln, rd, fp, st, mt, bg)) [4, 5, 6] rfl) hK hU hW⟩⟩ rfl rfl hl.1 rfl (lv_room (Nat.le_of_ble_eq_true rfl)) dL_law_360 ⟨Nat.le_of_ble_eq_true rfl, Nat.le_of_ble_eq_true rfl⟩) (fun r_13 er_13 => ?_)
    obtain rfl : r_13 = mBy cc 7 := er_13
    rw [bytes_yes hcc (by rw [← hce]; exact hh)]
    refine W.lcmp hx hb dL_law_363 ?_
    refine lv_if_eq (tgt := 369) hx hb dL_law_364 (by decide) (fun c_14 => ?_) (fun c_14 => ?_)
    · exact kk tx n ch pl k rl fp tb kb ln rd st mt bg mf bf sg H locs ls R0 hP hD hS (lv_sub hl [0, 1, 2, 3] rfl)
    · exact absurd (lcmp_self _) c_14
