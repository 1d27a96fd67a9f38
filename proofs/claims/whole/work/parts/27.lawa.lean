set_option maxHeartbeats 4000000 in
set_option maxRecDepth 100000 in
theorem law_c3 {p : Program} {e : Env} {s : State} {m : MethodId} {below : List Frame} {meth : Method} {c : Code} (l : Launch) {b L : Nat} {xs : Nat → Int32} (hL : L ≤ 2048) (C0 : lw_At p s m meth c b L xs) (dC : Nat → ClassId) (dI : Nat → Nat → Nat) (h0 h1 h2 h3 g0 g1 g2 : Nat) (cA : ClassId) (t0 t1 t2 t3 : Nat) (hT : xtab t0 t1 t2 t3 (fun q : Nat => s.heap.size ≤ q) s s.heap) (hK : va_K (dC, dI) vwCl [(cA, .int)] s) (i : Nat) (hi : i + 4 ≤ L) (kk : ∀ (tx : Nat → Int32) (n : Nat) (ch pl : Nat → Int32) (k : Nat) (rl : Int32) (fp : Int32) (tb kb : Nat → Nat) (ln : Nat) (rd : Bool) (st : Nat) (mt bg : Int32) (mf bf sg : Nat → Nat) (H : Heap) (locs : List Loc) (ls : Array Slot), Rel tx n ch pl k rl rd tb kb ln mf bf sg → va_P (dC, dI) vwCl (xw h0 h1 h2 h3 cA (tx, n, ch, pl, k, rl, fp) ++ mw g0 g1 g2 cA (tb, n, kb, ln, rd, fp, st, mt, bg)) H → va_D (fun q : Nat => s.heap.size ≤ q) (xw h0 h1 h2 h3 cA (tx, n, ch, pl, k, rl, fp) ++ mw g0 g1 g2 cA (tb, n, kb, ln, rd, fp, st, mt, bg)) → va_S (fun q : Nat => s.heap.size ≤ q) s.heap H locs → lv_has ls 4 [(3, .int (nI i)), (0, .ref b), (1, .ref h0), (2, .ref g0)] → W p l e room_1 s m #[Value.ref b] below meth c H locs 7 5016 (lw_Z below #[Value.ref b] s) (F0 m 369 ls [])) (tx : Nat → Int32) (n : Nat) (ch pl : Nat → Int32) (k : Nat) (rl : Int32) (fp : Int32) (tb kb : Nat → Nat) (ln : Nat) (rd : Bool) (st : Nat) (mt bg : Int32) (mf bf sg : Nat → Nat) (H : Heap) (locs : List Loc) (ls : Array Slot) (R0 : Rel tx n ch pl k rl rd tb kb ln mf bf sg) (hP : va_P (dC, dI) vwCl (xw h0 h1 h2 h3 cA (tx, n, ch, pl, k, rl, fp) ++ mw g0 g1 g2 cA (tb, n, kb, ln, rd, fp, st, mt, bg)) H) (hD : va_D (fun q : Nat => s.heap.size ≤ q) (xw h0 h1 h2 h3 cA (tx, n, ch, pl, k, rl, fp) ++ mw g0 g1 g2 cA (tb, n, kb, ln, rd, fp, st, mt, bg))) (hS : va_S (fun q : Nat => s.heap.size ≤ q) s.heap H locs) (hl : lv_has ls 4 [(3, .int (nI i)), (0, .ref b), (1, .ref h0), (2, .ref g0)]) : W p l e room_1 s m #[Value.ref b] below meth c H locs 7 5016 (lw_Z below #[Value.ref b] s) (F0 m 187 ls []) := by
  obtain ⟨hx, hb, hr, hml, hown0, hts, hX, hbl, hlocks, hgv⟩ := id C0
  have hown : s.vm.findClass RL = some m.cls := hown0
  have hA : ∀ q : Nat, s.heap.size ≤ q → (fun q : Nat => s.heap.size ≤ q) q := fun _ h => h
  have hbA : ¬ (fun q : Nat => s.heap.size ≤ q) b := Nat.not_le.mpr hbl
  have htsL : ∀ w ∈ wsL_law, w.before #[Value.ref b] s = true := fun w h => hts w (wsL_law_in w h)
  obtain ⟨hn, htx, htb, hkb, hln, hk, hch, hvc, hvp, hpk, hk0, hr0⟩ := id R0
  refine lv_aload_n hx hb dL_law_187 rfl (lv_at hl 2 rfl) ?_
  refine vp_callSi (W.runV (As := []) (rest := []) ⟨hx, hb, hml, hown, htsL⟩ (c_X0_place l dC dI h0 h1 h2 h3 cA t0 t1 t2 t3 tx n ch pl k rl fp) (cwV 0 htsL gL_law_X0_place rfl rfl rfl (by decide +kernel) ⟨Nat.le_of_ble_eq_true rfl, Nat.le_of_ble_eq_true rfl⟩) ⟨xpre_blind, va_recv hK hP (ci := 0) (q0 := 0) rfl rfl, fun U hU hW => ⟨rfl, xpre_of (hP.sub (ws' := xw h0 h1 h2 h3 cA (tx, n, ch, pl, k, rl, fp)) [0, 1, 2, 3] rfl) hK hT hS hU hW⟩⟩ rfl rfl hl.1 rfl (lv_room (Nat.le_of_ble_eq_true rfl)) dL_law_188 ⟨Nat.le_of_ble_eq_true rfl, Nat.le_of_ble_eq_true rfl⟩) (fun r_1 er_1 => ?_)
  rw [er_1]
  refine lv_aload_n hx hb dL_law_191 rfl (lv_at hl 3 rfl) ?_
  refine vp_callSi (W.runV (As := []) (rest := [.int fp]) ⟨hx, hb, hml, hown, htsL⟩ (c_X1_place l dC dI g0 g1 g2 cA tb n kb ln rd fp st mt bg) (cwV 0 htsL gL_law_X1_place rfl rfl rfl (by decide +kernel) ⟨Nat.le_of_ble_eq_true rfl, Nat.le_of_ble_eq_true rfl⟩) ⟨mpre_blind, va_recv hK hP (ci := 1) (q0 := 4) rfl rfl, fun U hU hW => ⟨rfl, mpre_of (hP.sub (ws' := mw g0 g1 g2 cA (tb, n, kb, ln, rd, fp, st, mt, bg)) [4, 5, 6] rfl) hK hU hW⟩⟩ rfl rfl hl.1 rfl (lv_room (Nat.le_of_ble_eq_true rfl)) dL_law_192 ⟨Nat.le_of_ble_eq_true rfl, Nat.le_of_ble_eq_true rfl⟩) (fun r_2 er_2 => ?_)
  rw [er_2]
  refine lv_icmp_eq (tgt := 369) hx hb dL_law_195 (by decide) (fun c_3 => ?_) (fun c_3 => ?_)
  · exact kk tx n ch pl k rl fp tb kb ln rd st mt bg mf bf sg H locs ls R0 hP hD hS (lv_sub hl [0, 1, 2, 3] rfl)
  · exact absurd rfl c_3
set_option maxHeartbeats 4000000 in
set_option maxRecDepth 100000 in
theorem law_c6 {p : Program} {e : Env} {s : State} {m : MethodId} {below : List Frame} {meth : Method} {c : Code} (l : Launch) {b L : Nat} {xs : Nat → Int32} (hL : L ≤ 2048) (C0 : lw_At p s m meth c b L xs) (dC : Nat → ClassId) (dI : Nat → Nat → Nat) (h0 h1 h2 h3 g0 g1 g2 : Nat) (cA : ClassId) (t0 t1 t2 t3 : Nat) (hT : xtab t0 t1 t2 t3 (fun q : Nat => s.heap.size ≤ q) s s.heap) (hK : va_K (dC, dI) vwCl [(cA, .int)] s) (i : Nat) (hi : i + 4 ≤ L) (kk : ∀ (tx : Nat → Int32) (n : Nat) (ch pl : Nat → Int32) (k : Nat) (rl : Int32) (fp : Int32) (tb kb : Nat → Nat) (ln : Nat) (rd : Bool) (st : Nat) (mt bg : Int32) (mf bf sg : Nat → Nat) (H : Heap) (locs : List Loc) (ls : Array Slot), Rel tx n ch pl k rl rd tb kb ln mf bf sg → va_P (dC, dI) vwCl (xw h0 h1 h2 h3 cA (tx, n, ch, pl, k, rl, fp) ++ mw g0 g1 g2 cA (tb, n, kb, ln, rd, fp, st, mt, bg)) H → va_D (fun q : Nat => s.heap.size ≤ q) (xw h0 h1 h2 h3 cA (tx, n, ch, pl, k, rl, fp) ++ mw g0 g1 g2 cA (tb, n, kb, ln, rd, fp, st, mt, bg)) → va_S (fun q : Nat => s.heap.size ≤ q) s.heap H locs → lv_has ls 4 [(3, .int (nI i)), (0, .ref b), (1, .ref h0), (2, .ref g0)] → W p l e room_1 s m #[Value.ref b] below meth c H locs 7 5016 (lw_Z below #[Value.ref b] s) (F0 m 369 ls [])) (tx : Nat → Int32) (n : Nat) (ch pl : Nat → Int32) (k : Nat) (rl : Int32) (fp : Int32) (tb kb : Nat → Nat) (ln : Nat) (rd : Bool) (st : Nat) (mt bg : Int32) (mf bf sg : Nat → Nat) (H : Heap) (locs : List Loc) (ls : Array Slot) (R0 : Rel tx n ch pl k rl rd tb kb ln mf bf sg) (hP : va_P (dC, dI) vwCl (xw h0 h1 h2 h3 cA (tx, n, ch, pl, k, rl, fp) ++ mw g0 g1 g2 cA (tb, n, kb, ln, rd, fp, st, mt, bg)) H) (hD : va_D (fun q : Nat => s.heap.size ≤ q) (xw h0 h1 h2 h3 cA (tx, n, ch, pl, k, rl, fp) ++ mw g0 g1 g2 cA (tb, n, kb, ln, rd, fp, st, mt, bg))) (hS : va_S (fun q : Nat => s.heap.size ≤ q) s.heap H locs) (hl : lv_has ls 4 [(3, .int (nI i)), (0, .ref b), (1, .ref h0), (2, .ref g0)]) : W p l e room_1 s m #[Value.ref b] below meth c H locs 7 5016 (lw_Z below #[Value.ref b] s) (F0 m 246 ls []) := by
  obtain ⟨hx, hb, hr, hml, hown0, hts, hX, hbl, hlocks, hgv⟩ := id C0
  have hown : s.vm.findClass RL = some m.cls := hown0
  have hA : ∀ q : Nat, s.heap.size ≤ q → (fun q : Nat => s.heap.size ≤ q) q := fun _ h => h
  have hbA : ¬ (fun q : Nat => s.heap.size ≤ q) b := Nat.not_le.mpr hbl
  have htsL : ∀ w ∈ wsL_law, w.before #[Value.ref b] s = true := fun w h => hts w (wsL_law_in w h)
  obtain ⟨hn, htx, htb, hkb, hln, hk, hch, hvc, hvp, hpk, hk0, hr0⟩ := id R0
  refine lv_aload_n hx hb dL_law_246 rfl (lv_at hl 2 rfl) ?_
  refine lv_aload_n hx hb dL_law_247 rfl (lv_at hl 1 rfl) ?_
  refine lv_iload_n hx hb dL_law_248 rfl (lv_at hl 0 rfl) ?_
  refine lv_iconst (v := 1) hx hb dL_law_249 (by decide) ?_
  refine lv_iadd hx hb dL_law_250 ?_
  refine lv_topi (fun x_1 ex_1 => ?_)
  obtain rfl : x_1 = nI (i + 1) := ex_1.trans (nI_add i 1)
  refine va_sld hx hb hX hbl hbA hS (vp_in_nI (by omega) (by omega)) dL_law_251 ?_
  refine lv_topi (fun x_2 ex_2 => ?_)
  obtain rfl : x_2 = xs (i + 1) := ex_2.trans (by rw [nI_clamp (by omega)])
  refine vp_callSi (W.runV (As := [.int (xs (i + 1))]) (rest := []) ⟨hx, hb, hml, hown, htsL⟩ (c_X0_kind l dC dI h0 h1 h2 h3 cA t0 t1 t2 t3 tx n ch pl k rl fp (xs (i + 1))) (cwV 1 htsL gL_law_X0_kind rfl rfl rfl (by decide +kernel) ⟨Nat.le_of_ble_eq_true rfl, Nat.le_of_ble_eq_true rfl⟩) ⟨xpre_blind, va_recv hK hP (ci := 0) (q0 := 0) rfl rfl, fun U hU hW => ⟨rfl, xpre_of (hP.sub (ws' := xw h0 h1 h2 h3 cA (tx, n, ch, pl, k, rl, fp)) [0, 1, 2, 3] rfl) hK hT hS hU hW⟩⟩ rfl rfl hl.1 rfl (lv_room (Nat.le_of_ble_eq_true rfl)) dL_law_252 ⟨Nat.le_of_ble_eq_true rfl, Nat.le_of_ble_eq_true rfl⟩) (fun r_3 er_3 => ?_)
  obtain rfl : r_3 = xKind (xs (i + 1)) := er_3
  refine lv_aload_n hx hb dL_law_255 rfl (lv_at hl 3 rfl) ?_
  refine lv_aload_n hx hb dL_law_256 rfl (lv_at hl 1 rfl) ?_
  refine lv_iload_n hx hb dL_law_257 rfl (lv_at hl 0 rfl) ?_
  refine lv_iconst (v := 1) hx hb dL_law_258 (by decide) ?_
  refine lv_iadd hx hb dL_law_259 ?_
  refine lv_topi (fun x_4 ex_4 => ?_)
  obtain rfl : x_4 = nI (i + 1) := ex_4.trans (nI_add i 1)
  refine va_sld hx hb hX hbl hbA hS (vp_in_nI (by omega) (by omega)) dL_law_260 ?_
  refine lv_topi (fun x_5 ex_5 => ?_)
  obtain rfl : x_5 = xs (i + 1) := ex_5.trans (by rw [nI_clamp (by omega)])
  refine vp_callSi (W.runV (As := [.int (xs (i + 1))]) (rest := [.int (xKind (xs (i + 1)))]) ⟨hx, hb, hml, hown, hts⟩ (c_X1_kind l dC dI g0 g1 g2 cA tb n kb ln rd fp st mt bg (xs (i + 1))) (cwV 1 hts gL_law_X1_kind rfl rfl rfl (by decide +kernel) ⟨Nat.le_of_ble_eq_true rfl, Nat.le_of_ble_eq_true rfl⟩) ⟨mpre_blind, va_recv hK hP (ci := 1) (q0 := 4) rfl rfl, fun U hU hW => ⟨rfl, mpre_of (hP.sub (ws' := mw g0 g1 g2 cA (tb, n, kb, ln, rd, fp, st, mt, bg)) [4, 5, 6] rfl) hK hU hW⟩⟩ rfl rfl hl.1 rfl (lv_room (Nat.le_of_ble_eq_true rfl)) dL_law_261 ⟨Nat.le_of_ble_eq_true rfl, Nat.le_of_ble_eq_true rfl⟩) (fun r_6 er_6 => ?_)
  obtain rfl : r_6 = mKind (xs (i + 1)) := er_6
  rw [← kind_eq]
  refine lv_icmp_eq (tgt := 369) hx hb dL_law_264 (by decide) (fun c_7 => ?_) (fun c_7 => ?_)
  · exact kk tx n ch pl k rl fp tb kb ln rd st mt bg mf bf sg H locs ls R0 hP hD hS (lv_sub hl [0, 1, 2, 3] rfl)
  · exact absurd rfl c_7
set_option maxHeartbeats 4000000 in
set_option maxRecDepth 100000 in
theorem law_c4 {p : Program} {e : Env} {s : State} {m : MethodId} {below : List Frame} {meth : Method} {c : Code} (l : Launch) {b L : Nat} {xs : Nat → Int32} (hL : L ≤ 2048) (C0 : lw_At p s m meth c b L xs) (dC : Nat → ClassId) (dI : Nat → Nat → Nat) (h0 h1 h2 h3 g0 g1 g2 : Nat) (cA : ClassId) (t0 t1 t2 t3 : Nat) (hT : xtab t0 t1 t2 t3 (fun q : Nat => s.heap.size ≤ q) s s.heap) (hK : va_K (dC, dI) vwCl [(cA, .int)] s) (i : Nat) (hi : i + 4 ≤ L) (kk : ∀ (tx : Nat → Int32) (n : Nat) (ch pl : Nat → Int32) (k : Nat) (rl : Int32) (fp : Int32) (tb kb : Nat → Nat) (ln : Nat) (rd : Bool) (st : Nat) (mt bg : Int32) (mf bf sg : Nat → Nat) (H : Heap) (locs : List Loc) (ls : Array Slot), Rel tx n ch pl k rl rd tb kb ln mf bf sg → va_P (dC, dI) vwCl (xw h0 h1 h2 h3 cA (tx, n, ch, pl, k, rl, fp) ++ mw g0 g1 g2 cA (tb, n, kb, ln, rd, fp, st, mt, bg)) H → va_D (fun q : Nat => s.heap.size ≤ q) (xw h0 h1 h2 h3 cA (tx, n, ch, pl, k, rl, fp) ++ mw g0 g1 g2 cA (tb, n, kb, ln, rd, fp, st, mt, bg)) → va_S (fun q : Nat => s.heap.size ≤ q) s.heap H locs → lv_has ls 4 [(3, .int (nI i)), (0, .ref b), (1, .ref h0), (2, .ref g0)] → W p l e room_1 s m #[Value.ref b] below meth c H locs 7 5016 (lw_Z below #[Value.ref b] s) (F0 m 369 ls [])) (tx : Nat → Int32) (n : Nat) (ch pl : Nat → Int32) (k : Nat) (rl : Int32) (fp : Int32) (tb kb : Nat → Nat) (ln : Nat) (rd : Bool) (st : Nat) (mt bg : Int32) (mf bf sg : Nat → Nat) (H : Heap) (locs : List Loc) (ls : Array Slot) (R0 : Rel tx n ch pl k rl rd tb kb ln mf bf sg) (hP : va_P (dC, dI) vwCl (xw h0 h1 h2 h3 cA (tx, n, ch, pl, k, rl, fp) ++ mw g0 g1 g2 cA (tb, n, kb, ln, rd, fp, st, mt, bg)) H) (hD : va_D (fun q : Nat => s.heap.size ≤ q) (xw h0 h1 h2 h3 cA (tx, n, ch, pl, k, rl, fp) ++ mw g0 g1 g2 cA (tb, n, kb, ln, rd, fp, st, mt, bg))) (hS : va_S (fun q : Nat => s.heap.size ≤ q) s.heap H locs) (hl : lv_has ls 4 [(3, .int (nI i)), (0, .ref b), (1, .ref h0), (2, .ref g0)]) : W p l e room_1 s m #[Value.ref b] below meth c H locs 7 5016 (lw_Z below #[Value.ref b] s) (F0 m 200 ls []) := by
  obtain ⟨hx, hb, hr, hml, hown0, hts, hX, hbl, hlocks, hgv⟩ := id C0
  have hown : s.vm.findClass RL = some m.cls := hown0
  have hA : ∀ q : Nat, s.heap.size ≤ q → (fun q : Nat => s.heap.size ≤ q) q := fun _ h => h
  have hbA : ¬ (fun q : Nat => s.heap.size ≤ q) b := Nat.not_le.mpr hbl
  have htsL : ∀ w ∈ wsL_law, w.before #[Value.ref b] s = true := fun w h => hts w (wsL_law_in w h)
  obtain ⟨hn, htx, htb, hkb, hln, hk, hch, hvc, hvp, hpk, hk0, hr0⟩ := id R0
  refine lv_aload_n hx hb dL_law_200 rfl (lv_at hl 2 rfl) ?_
  refine lv_aload_n hx hb dL_law_201 rfl (lv_at hl 1 rfl) ?_
  refine lv_iload_n hx hb dL_law_202 rfl (lv_at hl 0 rfl) ?_
  refine lv_iconst (v := 1) hx hb dL_law_203 (by decide) ?_
  refine lv_iadd hx hb dL_law_204 ?_
  refine lv_topi (fun x_1 ex_1 => ?_)
  obtain rfl : x_1 = nI (i + 1) := ex_1.trans (nI_add i 1)
  refine va_sld hx hb hX hbl hbA hS (vp_in_nI (by omega) (by omega)) dL_law_205 ?_
  refine lv_topi (fun x_2 ex_2 => ?_)
  obtain rfl : x_2 = xs (i + 1) := ex_2.trans (by rw [nI_clamp (by omega)])
  refine vp_callSi (W.runV (As := [.int (xs (i + 1))]) (rest := []) ⟨hx, hb, hml, hown, htsL⟩ (c_X0_at l dC dI h0 h1 h2 h3 cA t0 t1 t2 t3 tx n ch pl k rl fp (xs (i + 1)) hk) (cwV 1 htsL gL_law_X0_at rfl rfl rfl (by decide +kernel) ⟨Nat.le_of_ble_eq_true rfl, Nat.le_of_ble_eq_true rfl⟩) ⟨xpre_blind, va_recv hK hP (ci := 0) (q0 := 0) rfl rfl, fun U hU hW => ⟨rfl, xpre_of (hP.sub (ws' := xw h0 h1 h2 h3 cA (tx, n, ch, pl, k, rl, fp)) [0, 1, 2, 3] rfl) hK hT hS hU hW⟩⟩ rfl rfl hl.1 rfl (lv_room (Nat.le_of_ble_eq_true rfl)) dL_law_206 ⟨Nat.le_of_ble_eq_true rfl, Nat.le_of_ble_eq_true rfl⟩) (fun r_3 er_3 => ?_)
  obtain rfl : r_3 = xAt ch k (xs (i + 1)) := er_3
  refine lv_aload_n hx hb dL_law_209 rfl (lv_at hl 3 rfl) ?_
  refine lv_aload_n hx hb dL_law_210 rfl (lv_at hl 1 rfl) ?_
  refine lv_iload_n hx hb dL_law_211 rfl (lv_at hl 0 rfl) ?_
  refine lv_iconst (v := 1) hx hb dL_law_212 (by decide) ?_
  refine lv_iadd hx hb dL_law_213 ?_
  refine lv_topi (fun x_4 ex_4 => ?_)
  obtain rfl : x_4 = nI (i + 1) := ex_4.trans (nI_add i 1)
  refine va_sld hx hb hX hbl hbA hS (vp_in_nI (by omega) (by omega)) dL_law_214 ?_
  refine lv_topi (fun x_5 ex_5 => ?_)
  obtain rfl : x_5 = xs (i + 1) := ex_5.trans (by rw [nI_clamp (by omega)])
  have hFc := va_free (wc := mw g0 g1 g2 cA (tb, n, kb, ln, rd, fp, st, mt, bg)) hD hS hA [4, 5, 6] rfl
  refine va_calli (va_runV (As := [.int (xs (i + 1))]) (rest := [.int (xAt ch k (xs (i + 1)))]) ⟨hx, hb, hml, hown, htsL⟩ (c_X1_at l dC dI g0 g1 g2 cA H.size tb n kb ln rd fp st mt bg hkb hln k hk mf bf sg hch (xs (i + 1)) (xAt ch k (xs (i + 1))) (at_case hk hvc hk0 (xs (i + 1)))) (cwV 1 htsL gL_law_X1_at rfl rfl rfl (by decide +kernel) ⟨Nat.le_of_ble_eq_true rfl, Nat.le_of_ble_eq_true rfl⟩) ⟨mmut_blind, va_recv hK hP (ci := 1) (q0 := 4) rfl rfl, fun U hU hW => ⟨rfl, mmut_of (hP.sub (ws' := mw g0 g1 g2 cA (tb, n, kb, ln, rd, fp, st, mt, bg)) [4, 5, 6] rfl) hK (hD.sub (ws' := mw g0 g1 g2 cA (tb, n, kb, ln, rd, fp, st, mt, bg)) [4, 5, 6] (by decide) rfl) hU hW⟩⟩ rfl rfl hl.1 rfl (lv_room (Nat.le_of_ble_eq_true rfl)) dL_law_215 ⟨Nat.le_of_ble_eq_true rfl, Nat.le_of_ble_eq_true rfl⟩) hS (fun q _ h => hFc q h) hFc (fun r_6 u_6 t_6 H1 locs ht hvm hw hB hz1 hk1 hS => ?_)
  obtain ⟨hw0, st_6, mt_6, bg_6, hw1⟩ := hw
  obtain rfl : r_6 = xAt ch k (xs (i + 1)) := hw0
  obtain rfl : u_6 = (tb, n, kb, ln, rd, fp, st_6, mt_6, bg_6) := hw1
  obtain ⟨hP1, hK1, hD1⟩ := hB
  rw [ht] at hP1
  obtain ⟨hP, hD⟩ := va_join (wr := xw h0 h1 h2 h3 cA (tx, n, ch, pl, k, rl, fp)) (w1 := mw g0 g1 g2 cA (tb, n, kb, ln, rd, fp, st_6, mt_6, bg_6)) hP hD [4, 5, 6] [0, 1, 2, 3] rfl rfl (by decide) (by decide) hk1 hFc hP1 hD1
  generalize H1 = H at hP hS ⊢
  have hP : va_P (dC, dI) vwCl (xw h0 h1 h2 h3 cA (tx, n, ch, pl, k, rl, fp) ++ mw g0 g1 g2 cA (tb, n, kb, ln, rd, fp, st_6, mt_6, bg_6)) H := hP
  have hD : va_D (fun q : Nat => s.heap.size ≤ q) (xw h0 h1 h2 h3 cA (tx, n, ch, pl, k, rl, fp) ++ mw g0 g1 g2 cA (tb, n, kb, ln, rd, fp, st_6, mt_6, bg_6)) := hD
  refine lv_icmp_eq (tgt := 369) hx hb dL_law_218 (by decide) (fun c_7 => ?_) (fun c_7 => ?_)
  · exact kk tx n ch pl k rl fp tb kb ln rd st_6 mt_6 bg_6 mf bf sg H locs ls R0 hP hD hS (lv_sub hl [0, 1, 2, 3] rfl)
  · exact absurd rfl c_7
set_option maxHeartbeats 4000000 in
set_option maxRecDepth 100000 in
theorem law_c5 {p : Program} {e : Env} {s : State} {m : MethodId} {below : List Frame} {meth : Method} {c : Code} (l : Launch) {b L : Nat} {xs : Nat → Int32} (hL : L ≤ 2048) (C0 : lw_At p s m meth c b L xs) (dC : Nat → ClassId) (dI : Nat → Nat → Nat) (h0 h1 h2 h3 g0 g1 g2 : Nat) (cA : ClassId) (t0 t1 t2 t3 : Nat) (hT : xtab t0 t1 t2 t3 (fun q : Nat => s.heap.size ≤ q) s s.heap) (hK : va_K (dC, dI) vwCl [(cA, .int)] s) (i : Nat) (hi : i + 4 ≤ L) (kk : ∀ (tx : Nat → Int32) (n : Nat) (ch pl : Nat → Int32) (k : Nat) (rl : Int32) (fp : Int32) (tb kb : Nat → Nat) (ln : Nat) (rd : Bool) (st : Nat) (mt bg : Int32) (mf bf sg : Nat → Nat) (H : Heap) (locs : List Loc) (ls : Array Slot), Rel tx n ch pl k rl rd tb kb ln mf bf sg → va_P (dC, dI) vwCl (xw h0 h1 h2 h3 cA (tx, n, ch, pl, k, rl, fp) ++ mw g0 g1 g2 cA (tb, n, kb, ln, rd, fp, st, mt, bg)) H → va_D (fun q : Nat => s.heap.size ≤ q) (xw h0 h1 h2 h3 cA (tx, n, ch, pl, k, rl, fp) ++ mw g0 g1 g2 cA (tb, n, kb, ln, rd, fp, st, mt, bg)) → va_S (fun q : Nat => s.heap.size ≤ q) s.heap H locs → lv_has ls 4 [(3, .int (nI i)), (0, .ref b), (1, .ref h0), (2, .ref g0)] → W p l e room_1 s m #[Value.ref b] below meth c H locs 7 5016 (lw_Z below #[Value.ref b] s) (F0 m 369 ls [])) (tx : Nat → Int32) (n : Nat) (ch pl : Nat → Int32) (k : Nat) (rl : Int32) (fp : Int32) (tb kb : Nat → Nat) (ln : Nat) (rd : Bool) (st : Nat) (mt bg : Int32) (mf bf sg : Nat → Nat) (H : Heap) (locs : List Loc) (ls : Array Slot) (R0 : Rel tx n ch pl k rl rd tb kb ln mf bf sg) (hP : va_P (dC, dI) vwCl (xw h0 h1 h2 h3 cA (tx, n, ch, pl, k, rl, fp) ++ mw g0 g1 g2 cA (tb, n, kb, ln, rd, fp, st, mt, bg)) H) (hD : va_D (fun q : Nat => s.heap.size ≤ q) (xw h0 h1 h2 h3 cA (tx, n, ch, pl, k, rl, fp) ++ mw g0 g1 g2 cA (tb, n, kb, ln, rd, fp, st, mt, bg))) (hS : va_S (fun q : Nat => s.heap.size ≤ q) s.heap H locs) (hl : lv_has ls 4 [(3, .int (nI i)), (0, .ref b), (1, .ref h0), (2, .ref g0)]) : W p l e room_1 s m #[Value.ref b] below meth c H locs 7 5016 (lw_Z below #[Value.ref b] s) (F0 m 223 ls []) := by
  obtain ⟨hx, hb, hr, hml, hown0, hts, hX, hbl, hlocks, hgv⟩ := id C0
  have hown : s.vm.findClass RL = some m.cls := hown0
  have hA : ∀ q : Nat, s.heap.size ≤ q → (fun q : Nat => s.heap.size ≤ q) q := fun _ h => h
  have hbA : ¬ (fun q : Nat => s.heap.size ≤ q) b := Nat.not_le.mpr hbl
  have htsL : ∀ w ∈ wsL_law, w.before #[Value.ref b] s = true := fun w h => hts w (wsL_law_in w h)
  obtain ⟨hn, htx, htb, hkb, hln, hk, hch, hvc, hvp, hpk, hk0, hr0⟩ := id R0
  refine lv_aload_n hx hb dL_law_223 rfl (lv_at hl 2 rfl) ?_
  refine lv_aload_n hx hb dL_law_224 rfl (lv_at hl 1 rfl) ?_
  refine lv_iload_n hx hb dL_law_225 rfl (lv_at hl 0 rfl) ?_
  refine lv_iconst (v := 1) hx hb dL_law_226 (by decide) ?_
  refine lv_iadd hx hb dL_law_227 ?_
  refine lv_topi (fun x_1 ex_1 => ?_)
  obtain rfl : x_1 = nI (i + 1) := ex_1.trans (nI_add i 1)
  refine va_sld hx hb hX hbl hbA hS (vp_in_nI (by omega) (by omega)) dL_law_228 ?_
  refine lv_topi (fun x_2 ex_2 => ?_)
  obtain rfl : x_2 = xs (i + 1) := ex_2.trans (by rw [nI_clamp (by omega)])
  refine vp_callSi (W.runV (As := [.int (xs (i + 1))]) (rest := []) ⟨hx, hb, hml, hown, htsL⟩ (c_X0_placeOf l dC dI h0 h1 h2 h3 cA t0 t1 t2 t3 tx n ch pl k rl fp (xs (i + 1)) hk) (cwV 1 htsL gL_law_X0_placeOf rfl rfl rfl (by decide +kernel) ⟨Nat.le_of_ble_eq_true rfl, Nat.le_of_ble_eq_true rfl⟩) ⟨xpre_blind, va_recv hK hP (ci := 0) (q0 := 0) rfl rfl, fun U hU hW => ⟨rfl, xpre_of (hP.sub (ws' := xw h0 h1 h2 h3 cA (tx, n, ch, pl, k, rl, fp)) [0, 1, 2, 3] rfl) hK hT hS hU hW⟩⟩ rfl rfl hl.1 rfl (lv_room (Nat.le_of_ble_eq_true rfl)) dL_law_229 ⟨Nat.le_of_ble_eq_true rfl, Nat.le_of_ble_eq_true rfl⟩) (fun r_3 er_3 => ?_)
  obtain rfl : r_3 = xPlc rl pl k (xs (i + 1)) := er_3
  refine lv_aload_n hx hb dL_law_232 rfl (lv_at hl 3 rfl) ?_
  refine lv_aload_n hx hb dL_law_233 rfl (lv_at hl 1 rfl) ?_
  refine lv_iload_n hx hb dL_law_234 rfl (lv_at hl 0 rfl) ?_
  refine lv_iconst (v := 1) hx hb dL_law_235 (by decide) ?_
  refine lv_iadd hx hb dL_law_236 ?_
  refine lv_topi (fun x_4 ex_4 => ?_)
  obtain rfl : x_4 = nI (i + 1) := ex_4.trans (nI_add i 1)
  refine va_sld hx hb hX hbl hbA hS (vp_in_nI (by omega) (by omega)) dL_law_237 ?_
  refine lv_topi (fun x_5 ex_5 => ?_)
  obtain rfl : x_5 = xs (i + 1) := ex_5.trans (by rw [nI_clamp (by omega)])
  have hFc := va_free (wc := mw g0 g1 g2 cA (tb, n, kb, ln, rd, fp, st, mt, bg)) hD hS hA [4, 5, 6] rfl
  refine va_calli (va_runV (As := [.int (xs (i + 1))]) (rest := [.int (xPlc rl pl k (xs (i + 1)))]) ⟨hx, hb, hml, hown, hts⟩ (c_X1_placeOf l dC dI g0 g1 g2 cA H.size tb n kb ln rd fp st mt bg hkb hln k hk mf bf sg hch (xs (i + 1)) (xPlc rl pl k (xs (i + 1))) (pl_case hk hvp hpk hk0 hr0 (xs (i + 1)))) (cwV 1 hts gL_law_X1_placeOf rfl rfl rfl (by decide +kernel) ⟨Nat.le_of_ble_eq_true rfl, Nat.le_of_ble_eq_true rfl⟩) ⟨mmut_blind, va_recv hK hP (ci := 1) (q0 := 4) rfl rfl, fun U hU hW => ⟨rfl, mmut_of (hP.sub (ws' := mw g0 g1 g2 cA (tb, n, kb, ln, rd, fp, st, mt, bg)) [4, 5, 6] rfl) hK (hD.sub (ws' := mw g0 g1 g2 cA (tb, n, kb, ln, rd, fp, st, mt, bg)) [4, 5, 6] (by decide) rfl) hU hW⟩⟩ rfl rfl hl.1 rfl (lv_room (Nat.le_of_ble_eq_true rfl)) dL_law_238 ⟨Nat.le_of_ble_eq_true rfl, Nat.le_of_ble_eq_true rfl⟩) hS (fun q _ h => hFc q h) hFc (fun r_6 u_6 t_6 H1 locs ht hvm hw hB hz1 hk1 hS => ?_)
  obtain ⟨hw0, st_6, mt_6, bg_6, hw1⟩ := hw
  obtain rfl : r_6 = xPlc rl pl k (xs (i + 1)) := hw0
  obtain rfl : u_6 = (tb, n, kb, ln, rd, fp, st_6, mt_6, bg_6) := hw1
  obtain ⟨hP1, hK1, hD1⟩ := hB
  rw [ht] at hP1
  obtain ⟨hP, hD⟩ := va_join (wr := xw h0 h1 h2 h3 cA (tx, n, ch, pl, k, rl, fp)) (w1 := mw g0 g1 g2 cA (tb, n, kb, ln, rd, fp, st_6, mt_6, bg_6)) hP hD [4, 5, 6] [0, 1, 2, 3] rfl rfl (by decide) (by decide) hk1 hFc hP1 hD1
  generalize H1 = H at hP hS ⊢
  have hP : va_P (dC, dI) vwCl (xw h0 h1 h2 h3 cA (tx, n, ch, pl, k, rl, fp) ++ mw g0 g1 g2 cA (tb, n, kb, ln, rd, fp, st_6, mt_6, bg_6)) H := hP
  have hD : va_D (fun q : Nat => s.heap.size ≤ q) (xw h0 h1 h2 h3 cA (tx, n, ch, pl, k, rl, fp) ++ mw g0 g1 g2 cA (tb, n, kb, ln, rd, fp, st_6, mt_6, bg_6)) := hD
  refine lv_icmp_eq (tgt := 369) hx hb dL_law_241 (by decide) (fun c_7 => ?_) (fun c_7 => ?_)
  · exact kk tx n ch pl k rl fp tb kb ln rd st_6 mt_6 bg_6 mf bf sg H locs ls R0 hP hD hS (lv_sub hl [0, 1, 2, 3] rfl)
  · exact absurd rfl c_7
