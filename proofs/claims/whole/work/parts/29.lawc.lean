set_option maxHeartbeats 4000000 in
set_option maxRecDepth 100000 in
theorem law_c0 {p : Program} {e : Env} {s : State} {m : MethodId} {below : List Frame} {meth : Method} {c : Code} (l : Launch) {b L : Nat} {xs : Nat → Int32} (hL : L ≤ 2048) (C0 : lw_At p s m meth c b L xs) (dC : Nat → ClassId) (dI : Nat → Nat → Nat) (h0 h1 h2 h3 g0 g1 g2 : Nat) (cA : ClassId) (t0 t1 t2 t3 : Nat) (hT : xtab t0 t1 t2 t3 (fun q : Nat => s.heap.size ≤ q) s s.heap) (hK : va_K (dC, dI) vwCl [(cA, .int)] s) (i : Nat) (hi : i + 4 ≤ L) (kk : ∀ (tx : Nat → Int32) (n : Nat) (ch pl : Nat → Int32) (k : Nat) (rl : Int32) (fp : Int32) (tb kb : Nat → Nat) (ln : Nat) (rd : Bool) (st : Nat) (mt bg : Int32) (mf bf sg : Nat → Nat) (H : Heap) (locs : List Loc) (ls : Array Slot), Rel tx n ch pl k rl rd tb kb ln mf bf sg → va_P (dC, dI) vwCl (xw h0 h1 h2 h3 cA (tx, n, ch, pl, k, rl, fp) ++ mw g0 g1 g2 cA (tb, n, kb, ln, rd, fp, st, mt, bg)) H → va_D (fun q : Nat => s.heap.size ≤ q) (xw h0 h1 h2 h3 cA (tx, n, ch, pl, k, rl, fp) ++ mw g0 g1 g2 cA (tb, n, kb, ln, rd, fp, st, mt, bg)) → va_S (fun q : Nat => s.heap.size ≤ q) s.heap H locs → lv_has ls 4 [(3, .int (nI i)), (0, .ref b), (1, .ref h0), (2, .ref g0)] → W p l e room_1 s m #[Value.ref b] below meth c H locs 7 5016 (lw_Z below #[Value.ref b] s) (F0 m 369 ls [])) (tx : Nat → Int32) (n : Nat) (ch pl : Nat → Int32) (k : Nat) (rl : Int32) (fp : Int32) (tb kb : Nat → Nat) (ln : Nat) (rd : Bool) (st : Nat) (mt bg : Int32) (mf bf sg : Nat → Nat) (H : Heap) (locs : List Loc) (ls : Array Slot) (R0 : Rel tx n ch pl k rl rd tb kb ln mf bf sg) (hP : va_P (dC, dI) vwCl (xw h0 h1 h2 h3 cA (tx, n, ch, pl, k, rl, fp) ++ mw g0 g1 g2 cA (tb, n, kb, ln, rd, fp, st, mt, bg)) H) (hD : va_D (fun q : Nat => s.heap.size ≤ q) (xw h0 h1 h2 h3 cA (tx, n, ch, pl, k, rl, fp) ++ mw g0 g1 g2 cA (tb, n, kb, ln, rd, fp, st, mt, bg))) (hS : va_S (fun q : Nat => s.heap.size ≤ q) s.heap H locs) (hl : lv_has ls 4 [(3, .int (nI i)), (0, .ref b), (1, .ref h0), (2, .ref g0)]) : W p l e room_1 s m #[Value.ref b] below meth c H locs 7 5016 (lw_Z below #[Value.ref b] s) (F0 m 88 ls []) := by
  obtain ⟨hx, hb, hr, hml, hown0, hts, hX, hbl, hlocks, hgv⟩ := id C0
  have hown : s.vm.findClass RL = some m.cls := hown0
  have hA : ∀ q : Nat, s.heap.size ≤ q → (fun q : Nat => s.heap.size ≤ q) q := fun _ h => h
  have hbA : ¬ (fun q : Nat => s.heap.size ≤ q) b := Nat.not_le.mpr hbl
  have htsL : ∀ w ∈ wsL_law, w.before #[Value.ref b] s = true := fun w h => hts w (wsL_law_in w h)
  obtain ⟨hn, htx, htb, hkb, hln, hk, hch, hvc, hvp, hpk, hk0, hr0⟩ := id R0
  by_cases hok : xPutOk n (xs (i + 3)) = true
  · obtain ⟨q, hq, h1q, hq8, hroom⟩ := put_ok_nat hn hok
    refine lv_aload_n hx hb dL_law_88 rfl (lv_at hl 2 rfl) ?_
    refine lv_aload_n hx hb dL_law_89 rfl (lv_at hl 1 rfl) ?_
    refine lv_iload_n hx hb dL_law_90 rfl (lv_at hl 0 rfl) ?_
    refine lv_iconst (v := 1) hx hb dL_law_91 (by decide) ?_
    refine lv_iadd hx hb dL_law_92 ?_
    refine lv_topi (fun x_1 ex_1 => ?_)
    obtain rfl : x_1 = nI (i + 1) := ex_1.trans (nI_add i 1)
    refine va_sld hx hb hX hbl hbA hS (vp_in_nI (by omega) (by omega)) dL_law_93 ?_
    refine lv_topi (fun x_2 ex_2 => ?_)
    obtain rfl : x_2 = xs (i + 1) := ex_2.trans (by rw [nI_clamp (by omega)])
    refine lv_i2l hx hb dL_law_94 rfl ?_
    refine lv_bipush (v := 32) hx hb dL_law_95 (by decide) ?_
    refine lv_lshl hx hb dL_law_97 rfl ?_
    refine lv_aload_n hx hb dL_law_98 rfl (lv_at hl 1 rfl) ?_
    refine lv_iload_n hx hb dL_law_99 rfl (lv_at hl 0 rfl) ?_
    refine lv_iconst (v := 2) hx hb dL_law_100 (by decide) ?_
    refine lv_iadd hx hb dL_law_101 ?_
    refine lv_topi (fun x_3 ex_3 => ?_)
    obtain rfl : x_3 = nI (i + 2) := ex_3.trans (nI_add i 2)
    refine va_sld hx hb hX hbl hbA hS (vp_in_nI (by omega) (by omega)) dL_law_102 ?_
    refine lv_topi (fun x_4 ex_4 => ?_)
    obtain rfl : x_4 = xs (i + 2) := ex_4.trans (by rw [nI_clamp (by omega)])
    refine lv_i2l hx hb dL_law_103 rfl ?_
    refine lv_ldc2 (own := RL) (v := 4294967295) hx hb hown (hts (.constantLong RL 13 4294967295) (by decide +kernel)) dL_law_104 ?_
    refine lv_land hx hb dL_law_107 ?_
    refine lv_lor hx hb dL_law_108 ?_
    refine lv_topl (fun x_5 ex_5 => ?_)
    refine lv_aload_n hx hb dL_law_109 rfl (lv_at hl 1 rfl) ?_
    refine lv_iload_n hx hb dL_law_110 rfl (lv_at hl 0 rfl) ?_
    refine lv_iconst (v := 3) hx hb dL_law_111 (by decide) ?_
    refine lv_iadd hx hb dL_law_112 ?_
    refine lv_topi (fun x_6 ex_6 => ?_)
    obtain rfl : x_6 = nI (i + 3) := ex_6.trans (nI_add i 3)
    refine va_sld hx hb hX hbl hbA hS (vp_in_nI (by omega) (by omega)) dL_law_113 ?_
    refine lv_topi (fun x_7 ex_7 => ?_)
    obtain rfl : x_7 = xs (i + 3) := ex_7.trans (by rw [nI_clamp (by omega)])
    rw [hq]
    have hFc := va_free (wc := xw h0 h1 h2 h3 cA (tx, n, ch, pl, k, rl, fp)) hD hS hA [0, 1, 2, 3] rfl
    refine va_calli (va_runV (As := [.long x_5, .int (nI q)]) (rest := []) ⟨hx, hb, hml, hown, htsL⟩ (c_X0_put_ok l dC dI h0 h1 h2 h3 cA t0 t1 t2 t3 H.size tx n ch pl k rl fp x_5 q h1q hq8 hroom) (cwV 2 htsL gL_law_X0_put rfl rfl rfl (by decide +kernel) ⟨Nat.le_of_ble_eq_true rfl, Nat.le_of_ble_eq_true rfl⟩) ⟨xmut_blind, va_recv hK hP (ci := 0) (q0 := 0) rfl rfl, fun U hU hW => ⟨rfl, xmut_of (hP.sub (ws' := xw h0 h1 h2 h3 cA (tx, n, ch, pl, k, rl, fp)) [0, 1, 2, 3] rfl) hK (hD.sub (ws' := xw h0 h1 h2 h3 cA (tx, n, ch, pl, k, rl, fp)) [0, 1, 2, 3] (by decide) rfl) hT hS hFc hU hW⟩⟩ rfl rfl hl.1 rfl (lv_room (Nat.le_of_ble_eq_true rfl)) dL_law_114 ⟨Nat.le_of_ble_eq_true rfl, Nat.le_of_ble_eq_true rfl⟩) hS (fun q _ h => hFc q h) hFc (fun r_8 u_8 t_8 H1 locs ht hvm hw hB hz1 hk1 hS => ?_)
    obtain ⟨hw0, hw1⟩ := hw
    obtain rfl : r_8 = 1 := hw0
    obtain rfl : u_8 = ((putTx tx n (fun z => xPb x_5 (q - 1 - z)) q), (n + q), ch, pl, k, rl, fp) := hw1
    obtain ⟨hP1, hK1, hD1⟩ := hB
    rw [ht] at hP1
    obtain ⟨hP, hD⟩ := va_join (wr := mw g0 g1 g2 cA (tb, n, kb, ln, rd, fp, st, mt, bg)) (w1 := xw h0 h1 h2 h3 cA ((putTx tx n (fun z => xPb x_5 (q - 1 - z)) q), (n + q), ch, pl, k, rl, fp)) hP hD [0, 1, 2, 3] [4, 5, 6] rfl rfl (by decide) (by decide) hk1 hFc hP1 hD1
    generalize H1 = H at hP hS ⊢
    have hP : va_P (dC, dI) vwCl (xw h0 h1 h2 h3 cA ((putTx tx n (fun z => xPb x_5 (q - 1 - z)) q), (n + q), ch, pl, k, rl, fp) ++ mw g0 g1 g2 cA (tb, n, kb, ln, rd, fp, st, mt, bg)) H := hP.sub [3, 4, 5, 6, 0, 1, 2] rfl
    have hD : va_D (fun q : Nat => s.heap.size ≤ q) (xw h0 h1 h2 h3 cA ((putTx tx n (fun z => xPb x_5 (q - 1 - z)) q), (n + q), ch, pl, k, rl, fp) ++ mw g0 g1 g2 cA (tb, n, kb, ln, rd, fp, st, mt, bg)) := hD.sub [3, 4, 5, 6, 0, 1, 2] (by decide) rfl
    refine lv_aload_n hx hb dL_law_117 rfl (lv_at hl 3 rfl) ?_
    refine lv_aload_n hx hb dL_law_118 rfl (lv_at hl 1 rfl) ?_
    refine lv_iload_n hx hb dL_law_119 rfl (lv_at hl 0 rfl) ?_
    refine lv_iconst (v := 1) hx hb dL_law_120 (by decide) ?_
    refine lv_iadd hx hb dL_law_121 ?_
    refine lv_topi (fun x_9 ex_9 => ?_)
    obtain rfl : x_9 = nI (i + 1) := ex_9.trans (nI_add i 1)
    refine va_sld hx hb hX hbl hbA hS (vp_in_nI (by omega) (by omega)) dL_law_122 ?_
    refine lv_topi (fun x_10 ex_10 => ?_)
    obtain rfl : x_10 = xs (i + 1) := ex_10.trans (by rw [nI_clamp (by omega)])
    refine lv_i2l hx hb dL_law_123 rfl ?_
    refine lv_bipush (v := 32) hx hb dL_law_124 (by decide) ?_
    refine lv_lshl hx hb dL_law_126 rfl ?_
    refine lv_aload_n hx hb dL_law_127 rfl (lv_at hl 1 rfl) ?_
    refine lv_iload_n hx hb dL_law_128 rfl (lv_at hl 0 rfl) ?_
    refine lv_iconst (v := 2) hx hb dL_law_129 (by decide) ?_
    refine lv_iadd hx hb dL_law_130 ?_
    refine lv_topi (fun x_11 ex_11 => ?_)
    obtain rfl : x_11 = nI (i + 2) := ex_11.trans (nI_add i 2)
    refine va_sld hx hb hX hbl hbA hS (vp_in_nI (by omega) (by omega)) dL_law_131 ?_
    refine lv_topi (fun x_12 ex_12 => ?_)
    obtain rfl : x_12 = xs (i + 2) := ex_12.trans (by rw [nI_clamp (by omega)])
    refine lv_i2l hx hb dL_law_132 rfl ?_
    refine lv_ldc2 (own := RL) (v := 4294967295) hx hb hown (hts (.constantLong RL 13 4294967295) (by decide +kernel)) dL_law_133 ?_
    refine lv_land hx hb dL_law_136 ?_
    refine lv_lor hx hb dL_law_137 ?_
    refine lv_topl (fun x_13 ex_13 => ?_)
    obtain rfl : x_5 = x_13 := ex_5.trans ex_13.symm
    refine lv_aload_n hx hb dL_law_138 rfl (lv_at hl 1 rfl) ?_
    refine lv_iload_n hx hb dL_law_139 rfl (lv_at hl 0 rfl) ?_
    refine lv_iconst (v := 3) hx hb dL_law_140 (by decide) ?_
    refine lv_iadd hx hb dL_law_141 ?_
    refine lv_topi (fun x_14 ex_14 => ?_)
    obtain rfl : x_14 = nI (i + 3) := ex_14.trans (nI_add i 3)
    refine va_sld hx hb hX hbl hbA hS (vp_in_nI (by omega) (by omega)) dL_law_142 ?_
    refine lv_topi (fun x_15 ex_15 => ?_)
    obtain rfl : x_15 = xs (i + 3) := ex_15.trans (by rw [nI_clamp (by omega)])
    rw [hq]
    have hFc := va_free (wc := mw g0 g1 g2 cA (tb, n, kb, ln, rd, fp, st, mt, bg)) hD hS hA [4, 5, 6] rfl
    refine va_calli (va_runV (As := [.long x_5, .int (nI q)]) (rest := [.int 1]) ⟨hx, hb, hml, hown, htsL⟩ (c_X1_put_ok l dC dI g0 g1 g2 cA H.size tb n kb ln rd fp st mt bg x_5 q h1q hq8 hroom) (cwV 2 htsL gL_law_X1_put rfl rfl rfl (by decide +kernel) ⟨Nat.le_of_ble_eq_true rfl, Nat.le_of_ble_eq_true rfl⟩) ⟨mmut_blind, va_recv hK hP (ci := 1) (q0 := 4) rfl rfl, fun U hU hW => ⟨rfl, mmut_of (hP.sub (ws' := mw g0 g1 g2 cA (tb, n, kb, ln, rd, fp, st, mt, bg)) [4, 5, 6] rfl) hK (hD.sub (ws' := mw g0 g1 g2 cA (tb, n, kb, ln, rd, fp, st, mt, bg)) [4, 5, 6] (by decide) rfl) hU hW⟩⟩ rfl rfl hl.1 rfl (lv_room (Nat.le_of_ble_eq_true rfl)) dL_law_143 ⟨Nat.le_of_ble_eq_true rfl, Nat.le_of_ble_eq_true rfl⟩) hS (fun q _ h => hFc q h) hFc (fun r_16 u_16 t_16 H1 locs ht hvm hw hB hz1 hk1 hS => ?_)
    obtain ⟨hw0, hw1⟩ := hw
    obtain rfl : r_16 = 1 := hw0
    obtain rfl : u_16 = ((putN tb n (fun z => pbN x_5 (q - 1 - z)) q), (n + q), kb, ln, rd, fp, st, mt, bg) := hw1
    obtain ⟨hP1, hK1, hD1⟩ := hB
    rw [ht] at hP1
    obtain ⟨hP, hD⟩ := va_join (wr := xw h0 h1 h2 h3 cA ((putTx tx n (fun z => xPb x_5 (q - 1 - z)) q), (n + q), ch, pl, k, rl, fp)) (w1 := mw g0 g1 g2 cA ((putN tb n (fun z => pbN x_5 (q - 1 - z)) q), (n + q), kb, ln, rd, fp, st, mt, bg)) hP hD [4, 5, 6] [0, 1, 2, 3] rfl rfl (by decide) (by decide) hk1 hFc hP1 hD1
    generalize H1 = H at hP hS ⊢
    have hP : va_P (dC, dI) vwCl (xw h0 h1 h2 h3 cA ((putTx tx n (fun z => xPb x_5 (q - 1 - z)) q), (n + q), ch, pl, k, rl, fp) ++ mw g0 g1 g2 cA ((putN tb n (fun z => pbN x_5 (q - 1 - z)) q), (n + q), kb, ln, rd, fp, st, mt, bg)) H := hP
    have hD : va_D (fun q : Nat => s.heap.size ≤ q) (xw h0 h1 h2 h3 cA ((putTx tx n (fun z => xPb x_5 (q - 1 - z)) q), (n + q), ch, pl, k, rl, fp) ++ mw g0 g1 g2 cA ((putN tb n (fun z => pbN x_5 (q - 1 - z)) q), (n + q), kb, ln, rd, fp, st, mt, bg)) := hD
    refine lv_icmp_eq (tgt := 369) hx hb dL_law_146 (by decide) (fun c_17 => ?_) (fun c_17 => ?_)
    · have c_17 : 1 = 1 := (nI_eq (a := 1) (b := 1) (by omega) (by omega)).mp c_17
      have R1 : Rel (putTx tx n (fun z => xPb x_5 (q - 1 - z)) q) (n + q) ch pl k rl rd (putN tb n (fun z => pbN x_5 (q - 1 - z)) q) kb ln mf bf sg := ⟨hroom, put_rel htx q (fun z hz => xPb_nI x_5 (by omega)), put_lt htb q (fun z _ => pbN_lt x_5 _), hkb, hln, hk, hch, hvc, hvp, hpk, hk0, hr0⟩
      exact kk (putTx tx n (fun z => xPb x_5 (q - 1 - z)) q) (n + q) ch pl k rl fp (putN tb n (fun z => pbN x_5 (q - 1 - z)) q) kb ln rd st mt bg mf bf sg H locs ls R1 hP hD hS (lv_sub hl [0, 1, 2, 3] rfl)
    · exact absurd rfl c_17
  · have hno : xPutOk n (xs (i + 3)) = false := by cases hq : xPutOk n (xs (i + 3)) with | true => exact absurd hq hok | false => rfl
    refine lv_aload_n hx hb dL_law_88 rfl (lv_at hl 2 rfl) ?_
    refine lv_aload_n hx hb dL_law_89 rfl (lv_at hl 1 rfl) ?_
    refine lv_iload_n hx hb dL_law_90 rfl (lv_at hl 0 rfl) ?_
    refine lv_iconst (v := 1) hx hb dL_law_91 (by decide) ?_
    refine lv_iadd hx hb dL_law_92 ?_
    refine lv_topi (fun x_18 ex_18 => ?_)
    obtain rfl : x_18 = nI (i + 1) := ex_18.trans (nI_add i 1)
    refine va_sld hx hb hX hbl hbA hS (vp_in_nI (by omega) (by omega)) dL_law_93 ?_
    refine lv_topi (fun x_19 ex_19 => ?_)
    obtain rfl : x_19 = xs (i + 1) := ex_19.trans (by rw [nI_clamp (by omega)])
    refine lv_i2l hx hb dL_law_94 rfl ?_
    refine lv_bipush (v := 32) hx hb dL_law_95 (by decide) ?_
    refine lv_lshl hx hb dL_law_97 rfl ?_
    refine lv_aload_n hx hb dL_law_98 rfl (lv_at hl 1 rfl) ?_
    refine lv_iload_n hx hb dL_law_99 rfl (lv_at hl 0 rfl) ?_
    refine lv_iconst (v := 2) hx hb dL_law_100 (by decide) ?_
    refine lv_iadd hx hb dL_law_101 ?_
    refine lv_topi (fun x_20 ex_20 => ?_)
    obtain rfl : x_20 = nI (i + 2) := ex_20.trans (nI_add i 2)
    refine va_sld hx hb hX hbl hbA hS (vp_in_nI (by omega) (by omega)) dL_law_102 ?_
    refine lv_topi (fun x_21 ex_21 => ?_)
    obtain rfl : x_21 = xs (i + 2) := ex_21.trans (by rw [nI_clamp (by omega)])
    refine lv_i2l hx hb dL_law_103 rfl ?_
    refine lv_ldc2 (own := RL) (v := 4294967295) hx hb hown (hts (.constantLong RL 13 4294967295) (by decide +kernel)) dL_law_104 ?_
    refine lv_land hx hb dL_law_107 ?_
    refine lv_lor hx hb dL_law_108 ?_
    refine lv_topl (fun x_22 ex_22 => ?_)
    refine lv_aload_n hx hb dL_law_109 rfl (lv_at hl 1 rfl) ?_
    refine lv_iload_n hx hb dL_law_110 rfl (lv_at hl 0 rfl) ?_
    refine lv_iconst (v := 3) hx hb dL_law_111 (by decide) ?_
    refine lv_iadd hx hb dL_law_112 ?_
    refine lv_topi (fun x_23 ex_23 => ?_)
    obtain rfl : x_23 = nI (i + 3) := ex_23.trans (nI_add i 3)
    refine va_sld hx hb hX hbl hbA hS (vp_in_nI (by omega) (by omega)) dL_law_113 ?_
    refine lv_topi (fun x_24 ex_24 => ?_)
    obtain rfl : x_24 = xs (i + 3) := ex_24.trans (by rw [nI_clamp (by omega)])
    have hFc := va_free (wc := xw h0 h1 h2 h3 cA (tx, n, ch, pl, k, rl, fp)) hD hS hA [0, 1, 2, 3] rfl
    refine va_calli (va_runV (As := [.long x_22, .int (xs (i + 3))]) (rest := []) ⟨hx, hb, hml, hown, htsL⟩ (c_X0_put_no l dC dI h0 h1 h2 h3 cA t0 t1 t2 t3 H.size tx n ch pl k rl fp x_22 (xs (i + 3)) hno) (cwV 2 htsL gL_law_X0_put rfl rfl rfl (by decide +kernel) ⟨Nat.le_of_ble_eq_true rfl, Nat.le_of_ble_eq_true rfl⟩) ⟨xmut_blind, va_recv hK hP (ci := 0) (q0 := 0) rfl rfl, fun U hU hW => ⟨rfl, xmut_of (hP.sub (ws' := xw h0 h1 h2 h3 cA (tx, n, ch, pl, k, rl, fp)) [0, 1, 2, 3] rfl) hK (hD.sub (ws' := xw h0 h1 h2 h3 cA (tx, n, ch, pl, k, rl, fp)) [0, 1, 2, 3] (by decide) rfl) hT hS hFc hU hW⟩⟩ rfl rfl hl.1 rfl (lv_room (Nat.le_of_ble_eq_true rfl)) dL_law_114 ⟨Nat.le_of_ble_eq_true rfl, Nat.le_of_ble_eq_true rfl⟩) hS (fun q _ h => hFc q h) hFc (fun r_25 u_25 t_25 H1 locs ht hvm hw hB hz1 hk1 hS => ?_)
    obtain ⟨hw0, hw1⟩ := hw
    obtain rfl : r_25 = 0 := hw0
    obtain rfl : u_25 = (tx, n, ch, pl, k, rl, fp) := hw1
    obtain ⟨hP1, hK1, hD1⟩ := hB
    rw [ht] at hP1
    obtain ⟨hP, hD⟩ := va_join (wr := mw g0 g1 g2 cA (tb, n, kb, ln, rd, fp, st, mt, bg)) (w1 := xw h0 h1 h2 h3 cA (tx, n, ch, pl, k, rl, fp)) hP hD [0, 1, 2, 3] [4, 5, 6] rfl rfl (by decide) (by decide) hk1 hFc hP1 hD1
    generalize H1 = H at hP hS ⊢
    have hP : va_P (dC, dI) vwCl (xw h0 h1 h2 h3 cA (tx, n, ch, pl, k, rl, fp) ++ mw g0 g1 g2 cA (tb, n, kb, ln, rd, fp, st, mt, bg)) H := hP.sub [3, 4, 5, 6, 0, 1, 2] rfl
    have hD : va_D (fun q : Nat => s.heap.size ≤ q) (xw h0 h1 h2 h3 cA (tx, n, ch, pl, k, rl, fp) ++ mw g0 g1 g2 cA (tb, n, kb, ln, rd, fp, st, mt, bg)) := hD.sub [3, 4, 5, 6, 0, 1, 2] (by decide) rfl
    refine lv_aload_n hx hb dL_law_117 rfl (lv_at hl 3 rfl) ?_
    refine lv_aload_n hx hb dL_law_118 rfl (lv_at hl 1 rfl) ?_
    refine lv_iload_n hx hb dL_law_119 rfl (lv_at hl 0 rfl) ?_
    refine lv_iconst (v := 1) hx hb dL_law_120 (by decide) ?_
    refine lv_iadd hx hb dL_law_121 ?_
    refine lv_topi (fun x_26 ex_26 => ?_)
    obtain rfl : x_26 = nI (i + 1) := ex_26.trans (nI_add i 1)
    refine va_sld hx hb hX hbl hbA hS (vp_in_nI (by omega) (by omega)) dL_law_122 ?_
    refine lv_topi (fun x_27 ex_27 => ?_)
    obtain rfl : x_27 = xs (i + 1) := ex_27.trans (by rw [nI_clamp (by omega)])
    refine lv_i2l hx hb dL_law_123 rfl ?_
    refine lv_bipush (v := 32) hx hb dL_law_124 (by decide) ?_
    refine lv_lshl hx hb dL_law_126 rfl ?_
    refine lv_aload_n hx hb dL_law_127 rfl (lv_at hl 1 rfl) ?_
    refine lv_iload_n hx hb dL_law_128 rfl (lv_at hl 0 rfl) ?_
    refine lv_iconst (v := 2) hx hb dL_law_129 (by decide) ?_
    refine lv_iadd hx hb dL_law_130 ?_
    refine lv_topi (fun x_28 ex_28 => ?_)
    obtain rfl : x_28 = nI (i + 2) := ex_28.trans (nI_add i 2)
    refine va_sld hx hb hX hbl hbA hS (vp_in_nI (by omega) (by omega)) dL_law_131 ?_
    refine lv_topi (fun x_29 ex_29 => ?_)
    obtain rfl : x_29 = xs (i + 2) := ex_29.trans (by rw [nI_clamp (by omega)])
    refine lv_i2l hx hb dL_law_132 rfl ?_
    refine lv_ldc2 (own := RL) (v := 4294967295) hx hb hown (hts (.constantLong RL 13 4294967295) (by decide +kernel)) dL_law_133 ?_
    refine lv_land hx hb dL_law_136 ?_
    refine lv_lor hx hb dL_law_137 ?_
    refine lv_topl (fun x_30 ex_30 => ?_)
    obtain rfl : x_22 = x_30 := ex_22.trans ex_30.symm
    refine lv_aload_n hx hb dL_law_138 rfl (lv_at hl 1 rfl) ?_
    refine lv_iload_n hx hb dL_law_139 rfl (lv_at hl 0 rfl) ?_
    refine lv_iconst (v := 3) hx hb dL_law_140 (by decide) ?_
    refine lv_iadd hx hb dL_law_141 ?_
    refine lv_topi (fun x_31 ex_31 => ?_)
    obtain rfl : x_31 = nI (i + 3) := ex_31.trans (nI_add i 3)
    refine va_sld hx hb hX hbl hbA hS (vp_in_nI (by omega) (by omega)) dL_law_142 ?_
    refine lv_topi (fun x_32 ex_32 => ?_)
    obtain rfl : x_32 = xs (i + 3) := ex_32.trans (by rw [nI_clamp (by omega)])
    have hFc := va_free (wc := mw g0 g1 g2 cA (tb, n, kb, ln, rd, fp, st, mt, bg)) hD hS hA [4, 5, 6] rfl
    refine va_calli (va_runV (As := [.long x_22, .int (xs (i + 3))]) (rest := [.int 0]) ⟨hx, hb, hml, hown, htsL⟩ (c_X1_put_no l dC dI g0 g1 g2 cA H.size tb n kb ln rd fp st mt bg x_22 (xs (i + 3)) (by rw [put_ok_eq hn]; exact hno)) (cwV 2 htsL gL_law_X1_put rfl rfl rfl (by decide +kernel) ⟨Nat.le_of_ble_eq_true rfl, Nat.le_of_ble_eq_true rfl⟩) ⟨mmut_blind, va_recv hK hP (ci := 1) (q0 := 4) rfl rfl, fun U hU hW => ⟨rfl, mmut_of (hP.sub (ws' := mw g0 g1 g2 cA (tb, n, kb, ln, rd, fp, st, mt, bg)) [4, 5, 6] rfl) hK (hD.sub (ws' := mw g0 g1 g2 cA (tb, n, kb, ln, rd, fp, st, mt, bg)) [4, 5, 6] (by decide) rfl) hU hW⟩⟩ rfl rfl hl.1 rfl (lv_room (Nat.le_of_ble_eq_true rfl)) dL_law_143 ⟨Nat.le_of_ble_eq_true rfl, Nat.le_of_ble_eq_true rfl⟩) hS (fun q _ h => hFc q h) hFc (fun r_33 u_33 t_33 H1 locs ht hvm hw hB hz1 hk1 hS => ?_)
    obtain ⟨hw0, hw1⟩ := hw
    obtain rfl : r_33 = 0 := hw0
    obtain rfl : u_33 = (tb, n, kb, ln, rd, fp, st, mt, bg) := hw1
    obtain ⟨hP1, hK1, hD1⟩ := hB
    rw [ht] at hP1
    obtain ⟨hP, hD⟩ := va_join (wr := xw h0 h1 h2 h3 cA (tx, n, ch, pl, k, rl, fp)) (w1 := mw g0 g1 g2 cA (tb, n, kb, ln, rd, fp, st, mt, bg)) hP hD [4, 5, 6] [0, 1, 2, 3] rfl rfl (by decide) (by decide) hk1 hFc hP1 hD1
    generalize H1 = H at hP hS ⊢
    have hP : va_P (dC, dI) vwCl (xw h0 h1 h2 h3 cA (tx, n, ch, pl, k, rl, fp) ++ mw g0 g1 g2 cA (tb, n, kb, ln, rd, fp, st, mt, bg)) H := hP
    have hD : va_D (fun q : Nat => s.heap.size ≤ q) (xw h0 h1 h2 h3 cA (tx, n, ch, pl, k, rl, fp) ++ mw g0 g1 g2 cA (tb, n, kb, ln, rd, fp, st, mt, bg)) := hD
    refine lv_icmp_eq (tgt := 369) hx hb dL_law_146 (by decide) (fun c_34 => ?_) (fun c_34 => ?_)
    · have c_34 : 0 = 0 := (nI_eq (a := 0) (b := 0) (by omega) (by omega)).mp c_34
      exact kk tx n ch pl k rl fp tb kb ln rd st mt bg mf bf sg H locs ls R0 hP hD hS (lv_sub hl [0, 1, 2, 3] rfl)
    · exact absurd rfl c_34
set_option maxHeartbeats 4000000 in
set_option maxRecDepth 100000 in
theorem law_c1 {p : Program} {e : Env} {s : State} {m : MethodId} {below : List Frame} {meth : Method} {c : Code} (l : Launch) {b L : Nat} {xs : Nat → Int32} (hL : L ≤ 2048) (C0 : lw_At p s m meth c b L xs) (dC : Nat → ClassId) (dI : Nat → Nat → Nat) (h0 h1 h2 h3 g0 g1 g2 : Nat) (cA : ClassId) (t0 t1 t2 t3 : Nat) (hT : xtab t0 t1 t2 t3 (fun q : Nat => s.heap.size ≤ q) s s.heap) (hK : va_K (dC, dI) vwCl [(cA, .int)] s) (i : Nat) (hi : i + 4 ≤ L) (kk : ∀ (tx : Nat → Int32) (n : Nat) (ch pl : Nat → Int32) (k : Nat) (rl : Int32) (fp : Int32) (tb kb : Nat → Nat) (ln : Nat) (rd : Bool) (st : Nat) (mt bg : Int32) (mf bf sg : Nat → Nat) (H : Heap) (locs : List Loc) (ls : Array Slot), Rel tx n ch pl k rl rd tb kb ln mf bf sg → va_P (dC, dI) vwCl (xw h0 h1 h2 h3 cA (tx, n, ch, pl, k, rl, fp) ++ mw g0 g1 g2 cA (tb, n, kb, ln, rd, fp, st, mt, bg)) H → va_D (fun q : Nat => s.heap.size ≤ q) (xw h0 h1 h2 h3 cA (tx, n, ch, pl, k, rl, fp) ++ mw g0 g1 g2 cA (tb, n, kb, ln, rd, fp, st, mt, bg)) → va_S (fun q : Nat => s.heap.size ≤ q) s.heap H locs → lv_has ls 4 [(3, .int (nI i)), (0, .ref b), (1, .ref h0), (2, .ref g0)] → W p l e room_1 s m #[Value.ref b] below meth c H locs 7 5016 (lw_Z below #[Value.ref b] s) (F0 m 369 ls [])) (tx : Nat → Int32) (n : Nat) (ch pl : Nat → Int32) (k : Nat) (rl : Int32) (fp : Int32) (tb kb : Nat → Nat) (ln : Nat) (rd : Bool) (st : Nat) (mt bg : Int32) (mf bf sg : Nat → Nat) (H : Heap) (locs : List Loc) (ls : Array Slot) (R0 : Rel tx n ch pl k rl rd tb kb ln mf bf sg) (hP : va_P (dC, dI) vwCl (xw h0 h1 h2 h3 cA (tx, n, ch, pl, k, rl, fp) ++ mw g0 g1 g2 cA (tb, n, kb, ln, rd, fp, st, mt, bg)) H) (hD : va_D (fun q : Nat => s.heap.size ≤ q) (xw h0 h1 h2 h3 cA (tx, n, ch, pl, k, rl, fp) ++ mw g0 g1 g2 cA (tb, n, kb, ln, rd, fp, st, mt, bg))) (hS : va_S (fun q : Nat => s.heap.size ≤ q) s.heap H locs) (hl : lv_has ls 4 [(3, .int (nI i)), (0, .ref b), (1, .ref h0), (2, .ref g0)]) : W p l e room_1 s m #[Value.ref b] below meth c H locs 7 5016 (lw_Z below #[Value.ref b] s) (F0 m 151 ls []) := by
  obtain ⟨hx, hb, hr, hml, hown0, hts, hX, hbl, hlocks, hgv⟩ := id C0
  have hown : s.vm.findClass RL = some m.cls := hown0
  have hA : ∀ q : Nat, s.heap.size ≤ q → (fun q : Nat => s.heap.size ≤ q) q := fun _ h => h
  have hbA : ¬ (fun q : Nat => s.heap.size ≤ q) b := Nat.not_le.mpr hbl
  have htsL : ∀ w ∈ wsL_law, w.before #[Value.ref b] s = true := fun w h => hts w (wsL_law_in w h)
  obtain ⟨hn, htx, htb, hkb, hln, hk, hch, hvc, hvp, hpk, hk0, hr0⟩ := id R0
  by_cases hok : xChOk n (xs (i + 1)) = true
  · obtain ⟨cc, hq, hcc, hh, hroom⟩ := ch_ok_nat hn hok
    have hsz := szN_in cc
    refine lv_aload_n hx hb dL_law_151 rfl (lv_at hl 2 rfl) ?_
    refine lv_aload_n hx hb dL_law_152 rfl (lv_at hl 1 rfl) ?_
    refine lv_iload_n hx hb dL_law_153 rfl (lv_at hl 0 rfl) ?_
    refine lv_iconst (v := 1) hx hb dL_law_154 (by decide) ?_
    refine lv_iadd hx hb dL_law_155 ?_
    refine lv_topi (fun x_1 ex_1 => ?_)
    obtain rfl : x_1 = nI (i + 1) := ex_1.trans (nI_add i 1)
    refine va_sld hx hb hX hbl hbA hS (vp_in_nI (by omega) (by omega)) dL_law_156 ?_
    refine lv_topi (fun x_2 ex_2 => ?_)
    obtain rfl : x_2 = xs (i + 1) := ex_2.trans (by rw [nI_clamp (by omega)])
    rw [hq]
    have hFc := va_free (wc := xw h0 h1 h2 h3 cA (tx, n, ch, pl, k, rl, fp)) hD hS hA [0, 1, 2, 3] rfl
    refine va_calli (va_runV (As := [.int (nI cc)]) (rest := []) ⟨hx, hb, hml, hown, htsL⟩ (c_X0_character_ok l dC dI h0 h1 h2 h3 cA t0 t1 t2 t3 H.size tx n ch pl k rl fp (nI cc) (szN cc) (width_nat hcc hh) (by omega) (by omega) hroom) (cwV 1 htsL gL_law_X0_character rfl rfl rfl (by decide +kernel) ⟨Nat.le_of_ble_eq_true rfl, Nat.le_of_ble_eq_true rfl⟩) ⟨xmut_blind, va_recv hK hP (ci := 0) (q0 := 0) rfl rfl, fun U hU hW => ⟨rfl, xmut_of (hP.sub (ws' := xw h0 h1 h2 h3 cA (tx, n, ch, pl, k, rl, fp)) [0, 1, 2, 3] rfl) hK (hD.sub (ws' := xw h0 h1 h2 h3 cA (tx, n, ch, pl, k, rl, fp)) [0, 1, 2, 3] (by decide) rfl) hT hS hFc hU hW⟩⟩ rfl rfl hl.1 rfl (lv_room (Nat.le_of_ble_eq_true rfl)) dL_law_157 ⟨Nat.le_of_ble_eq_true rfl, Nat.le_of_ble_eq_true rfl⟩) hS (fun q _ h => hFc q h) hFc (fun r_3 u_3 t_3 H1 locs ht hvm hw hB hz1 hk1 hS => ?_)
    obtain ⟨hw0, hw1⟩ := hw
    obtain rfl : r_3 = 1 := hw0
    obtain rfl : u_3 = ((putTx tx n (fun z => xEnc (nI cc) (nI (szN cc)) (nI z)) (szN cc)), (n + szN cc), ch, pl, k, rl, fp) := hw1
    obtain ⟨hP1, hK1, hD1⟩ := hB
    rw [ht] at hP1
    obtain ⟨hP, hD⟩ := va_join (wr := mw g0 g1 g2 cA (tb, n, kb, ln, rd, fp, st, mt, bg)) (w1 := xw h0 h1 h2 h3 cA ((putTx tx n (fun z => xEnc (nI cc) (nI (szN cc)) (nI z)) (szN cc)), (n + szN cc), ch, pl, k, rl, fp)) hP hD [0, 1, 2, 3] [4, 5, 6] rfl rfl (by decide) (by decide) hk1 hFc hP1 hD1
    generalize H1 = H at hP hS ⊢
    have hP : va_P (dC, dI) vwCl (xw h0 h1 h2 h3 cA ((putTx tx n (fun z => xEnc (nI cc) (nI (szN cc)) (nI z)) (szN cc)), (n + szN cc), ch, pl, k, rl, fp) ++ mw g0 g1 g2 cA (tb, n, kb, ln, rd, fp, st, mt, bg)) H := hP.sub [3, 4, 5, 6, 0, 1, 2] rfl
    have hD : va_D (fun q : Nat => s.heap.size ≤ q) (xw h0 h1 h2 h3 cA ((putTx tx n (fun z => xEnc (nI cc) (nI (szN cc)) (nI z)) (szN cc)), (n + szN cc), ch, pl, k, rl, fp) ++ mw g0 g1 g2 cA (tb, n, kb, ln, rd, fp, st, mt, bg)) := hD.sub [3, 4, 5, 6, 0, 1, 2] (by decide) rfl
    refine lv_aload_n hx hb dL_law_160 rfl (lv_at hl 3 rfl) ?_
    refine lv_aload_n hx hb dL_law_161 rfl (lv_at hl 1 rfl) ?_
    refine lv_iload_n hx hb dL_law_162 rfl (lv_at hl 0 rfl) ?_
    refine lv_iconst (v := 1) hx hb dL_law_163 (by decide) ?_
    refine lv_iadd hx hb dL_law_164 ?_
    refine lv_topi (fun x_4 ex_4 => ?_)
    obtain rfl : x_4 = nI (i + 1) := ex_4.trans (nI_add i 1)
    refine va_sld hx hb hX hbl hbA hS (vp_in_nI (by omega) (by omega)) dL_law_165 ?_
    refine lv_topi (fun x_5 ex_5 => ?_)
    obtain rfl : x_5 = xs (i + 1) := ex_5.trans (by rw [nI_clamp (by omega)])
    rw [hq]
    have hFc := va_free (wc := mw g0 g1 g2 cA (tb, n, kb, ln, rd, fp, st, mt, bg)) hD hS hA [4, 5, 6] rfl
    refine va_calli (va_runV (As := [.int (nI cc)]) (rest := [.int 1]) ⟨hx, hb, hml, hown, htsL⟩ (c_X1_character_ok l dC dI g0 g1 g2 cA H.size tb n kb ln rd fp st mt bg cc hcc hh hroom) (cwV 1 htsL gL_law_X1_character rfl rfl rfl (by decide +kernel) ⟨Nat.le_of_ble_eq_true rfl, Nat.le_of_ble_eq_true rfl⟩) ⟨mmut_blind, va_recv hK hP (ci := 1) (q0 := 4) rfl rfl, fun U hU hW => ⟨rfl, mmut_of (hP.sub (ws' := mw g0 g1 g2 cA (tb, n, kb, ln, rd, fp, st, mt, bg)) [4, 5, 6] rfl) hK (hD.sub (ws' := mw g0 g1 g2 cA (tb, n, kb, ln, rd, fp, st, mt, bg)) [4, 5, 6] (by decide) rfl) hU hW⟩⟩ rfl rfl hl.1 rfl (lv_room (Nat.le_of_ble_eq_true rfl)) dL_law_166 ⟨Nat.le_of_ble_eq_true rfl, Nat.le_of_ble_eq_true rfl⟩) hS (fun q _ h => hFc q h) hFc (fun r_6 u_6 t_6 H1 locs ht hvm hw hB hz1 hk1 hS => ?_)
    obtain ⟨hw0, hw1⟩ := hw
    obtain rfl : r_6 = 1 := hw0
    obtain rfl : u_6 = ((putN tb n (fun z => encN cc z) (szN cc)), (n + szN cc), kb, ln, rd, fp, st, mt, bg) := hw1
    obtain ⟨hP1, hK1, hD1⟩ := hB
    rw [ht] at hP1
    obtain ⟨hP, hD⟩ := va_join (wr := xw h0 h1 h2 h3 cA ((putTx tx n (fun z => xEnc (nI cc) (nI (szN cc)) (nI z)) (szN cc)), (n + szN cc), ch, pl, k, rl, fp)) (w1 := mw g0 g1 g2 cA ((putN tb n (fun z => encN cc z) (szN cc)), (n + szN cc), kb, ln, rd, fp, st, mt, bg)) hP hD [4, 5, 6] [0, 1, 2, 3] rfl rfl (by decide) (by decide) hk1 hFc hP1 hD1
    generalize H1 = H at hP hS ⊢
    have hP : va_P (dC, dI) vwCl (xw h0 h1 h2 h3 cA ((putTx tx n (fun z => xEnc (nI cc) (nI (szN cc)) (nI z)) (szN cc)), (n + szN cc), ch, pl, k, rl, fp) ++ mw g0 g1 g2 cA ((putN tb n (fun z => encN cc z) (szN cc)), (n + szN cc), kb, ln, rd, fp, st, mt, bg)) H := hP
    have hD : va_D (fun q : Nat => s.heap.size ≤ q) (xw h0 h1 h2 h3 cA ((putTx tx n (fun z => xEnc (nI cc) (nI (szN cc)) (nI z)) (szN cc)), (n + szN cc), ch, pl, k, rl, fp) ++ mw g0 g1 g2 cA ((putN tb n (fun z => encN cc z) (szN cc)), (n + szN cc), kb, ln, rd, fp, st, mt, bg)) := hD
    refine lv_icmp_eq (tgt := 369) hx hb dL_law_169 (by decide) (fun c_7 => ?_) (fun c_7 => ?_)
    · have c_7 : 1 = 1 := (nI_eq (a := 1) (b := 1) (by omega) (by omega)).mp c_7
      have R1 : Rel (putTx tx n (fun z => xEnc (nI cc) (nI (szN cc)) (nI z)) (szN cc)) (n + szN cc) ch pl k rl rd (putN tb n (fun z => encN cc z) (szN cc)) kb ln mf bf sg := ⟨hroom, put_rel htx (szN cc) (fun z hz => xEnc_nI hcc hz), put_lt htb (szN cc) (fun z hz => encN_lt hcc hz), hkb, hln, hk, hch, hvc, hvp, hpk, hk0, hr0⟩
      exact kk (putTx tx n (fun z => xEnc (nI cc) (nI (szN cc)) (nI z)) (szN cc)) (n + szN cc) ch pl k rl fp (putN tb n (fun z => encN cc z) (szN cc)) kb ln rd st mt bg mf bf sg H locs ls R1 hP hD hS (lv_sub hl [0, 1, 2, 3] rfl)
    · exact absurd rfl c_7
  · have hno : xChOk n (xs (i + 1)) = false := by cases hq : xChOk n (xs (i + 1)) with | true => exact absurd hq hok | false => rfl
    refine lv_aload_n hx hb dL_law_151 rfl (lv_at hl 2 rfl) ?_
    refine lv_aload_n hx hb dL_law_152 rfl (lv_at hl 1 rfl) ?_
    refine lv_iload_n hx hb dL_law_153 rfl (lv_at hl 0 rfl) ?_
    refine lv_iconst (v := 1) hx hb dL_law_154 (by decide) ?_
    refine lv_iadd hx hb dL_law_155 ?_
    refine lv_topi (fun x_8 ex_8 => ?_)
    obtain rfl : x_8 = nI (i + 1) := ex_8.trans (nI_add i 1)
    refine va_sld hx hb hX hbl hbA hS (vp_in_nI (by omega) (by omega)) dL_law_156 ?_
    refine lv_topi (fun x_9 ex_9 => ?_)
    obtain rfl : x_9 = xs (i + 1) := ex_9.trans (by rw [nI_clamp (by omega)])
    have hFc := va_free (wc := xw h0 h1 h2 h3 cA (tx, n, ch, pl, k, rl, fp)) hD hS hA [0, 1, 2, 3] rfl
    refine va_calli (va_runV (As := [.int (xs (i + 1))]) (rest := []) ⟨hx, hb, hml, hown, htsL⟩ (c_X0_character_no l dC dI h0 h1 h2 h3 cA t0 t1 t2 t3 H.size tx n ch pl k rl fp (xs (i + 1)) hno) (cwV 1 htsL gL_law_X0_character rfl rfl rfl (by decide +kernel) ⟨Nat.le_of_ble_eq_true rfl, Nat.le_of_ble_eq_true rfl⟩) ⟨xmut_blind, va_recv hK hP (ci := 0) (q0 := 0) rfl rfl, fun U hU hW => ⟨rfl, xmut_of (hP.sub (ws' := xw h0 h1 h2 h3 cA (tx, n, ch, pl, k, rl, fp)) [0, 1, 2, 3] rfl) hK (hD.sub (ws' := xw h0 h1 h2 h3 cA (tx, n, ch, pl, k, rl, fp)) [0, 1, 2, 3] (by decide) rfl) hT hS hFc hU hW⟩⟩ rfl rfl hl.1 rfl (lv_room (Nat.le_of_ble_eq_true rfl)) dL_law_157 ⟨Nat.le_of_ble_eq_true rfl, Nat.le_of_ble_eq_true rfl⟩) hS (fun q _ h => hFc q h) hFc (fun r_10 u_10 t_10 H1 locs ht hvm hw hB hz1 hk1 hS => ?_)
    obtain ⟨hw0, hw1⟩ := hw
    obtain rfl : r_10 = 0 := hw0
    obtain rfl : u_10 = (tx, n, ch, pl, k, rl, fp) := hw1
    obtain ⟨hP1, hK1, hD1⟩ := hB
    rw [ht] at hP1
    obtain ⟨hP, hD⟩ := va_join (wr := mw g0 g1 g2 cA (tb, n, kb, ln, rd, fp, st, mt, bg)) (w1 := xw h0 h1 h2 h3 cA (tx, n, ch, pl, k, rl, fp)) hP hD [0, 1, 2, 3] [4, 5, 6] rfl rfl (by decide) (by decide) hk1 hFc hP1 hD1
    generalize H1 = H at hP hS ⊢
    have hP : va_P (dC, dI) vwCl (xw h0 h1 h2 h3 cA (tx, n, ch, pl, k, rl, fp) ++ mw g0 g1 g2 cA (tb, n, kb, ln, rd, fp, st, mt, bg)) H := hP.sub [3, 4, 5, 6, 0, 1, 2] rfl
    have hD : va_D (fun q : Nat => s.heap.size ≤ q) (xw h0 h1 h2 h3 cA (tx, n, ch, pl, k, rl, fp) ++ mw g0 g1 g2 cA (tb, n, kb, ln, rd, fp, st, mt, bg)) := hD.sub [3, 4, 5, 6, 0, 1, 2] (by decide) rfl
    refine lv_aload_n hx hb dL_law_160 rfl (lv_at hl 3 rfl) ?_
    refine lv_aload_n hx hb dL_law_161 rfl (lv_at hl 1 rfl) ?_
    refine lv_iload_n hx hb dL_law_162 rfl (lv_at hl 0 rfl) ?_
    refine lv_iconst (v := 1) hx hb dL_law_163 (by decide) ?_
    refine lv_iadd hx hb dL_law_164 ?_
    refine lv_topi (fun x_11 ex_11 => ?_)
    obtain rfl : x_11 = nI (i + 1) := ex_11.trans (nI_add i 1)
    refine va_sld hx hb hX hbl hbA hS (vp_in_nI (by omega) (by omega)) dL_law_165 ?_
    refine lv_topi (fun x_12 ex_12 => ?_)
    obtain rfl : x_12 = xs (i + 1) := ex_12.trans (by rw [nI_clamp (by omega)])
    have hFc := va_free (wc := mw g0 g1 g2 cA (tb, n, kb, ln, rd, fp, st, mt, bg)) hD hS hA [4, 5, 6] rfl
    refine va_calli (va_runV (As := [.int (xs (i + 1))]) (rest := [.int 0]) ⟨hx, hb, hml, hown, htsL⟩ (c_X1_character_no l dC dI g0 g1 g2 cA H.size tb n kb ln rd fp st mt bg (xs (i + 1)) (by rw [ch_ok_eq hn]; exact hno)) (cwV 1 htsL gL_law_X1_character rfl rfl rfl (by decide +kernel) ⟨Nat.le_of_ble_eq_true rfl, Nat.le_of_ble_eq_true rfl⟩) ⟨mmut_blind, va_recv hK hP (ci := 1) (q0 := 4) rfl rfl, fun U hU hW => ⟨rfl, mmut_of (hP.sub (ws' := mw g0 g1 g2 cA (tb, n, kb, ln, rd, fp, st, mt, bg)) [4, 5, 6] rfl) hK (hD.sub (ws' := mw g0 g1 g2 cA (tb, n, kb, ln, rd, fp, st, mt, bg)) [4, 5, 6] (by decide) rfl) hU hW⟩⟩ rfl rfl hl.1 rfl (lv_room (Nat.le_of_ble_eq_true rfl)) dL_law_166 ⟨Nat.le_of_ble_eq_true rfl, Nat.le_of_ble_eq_true rfl⟩) hS (fun q _ h => hFc q h) hFc (fun r_13 u_13 t_13 H1 locs ht hvm hw hB hz1 hk1 hS => ?_)
    obtain ⟨hw0, hw1⟩ := hw
    obtain rfl : r_13 = 0 := hw0
    obtain rfl : u_13 = (tb, n, kb, ln, rd, fp, st, mt, bg) := hw1
    obtain ⟨hP1, hK1, hD1⟩ := hB
    rw [ht] at hP1
    obtain ⟨hP, hD⟩ := va_join (wr := xw h0 h1 h2 h3 cA (tx, n, ch, pl, k, rl, fp)) (w1 := mw g0 g1 g2 cA (tb, n, kb, ln, rd, fp, st, mt, bg)) hP hD [4, 5, 6] [0, 1, 2, 3] rfl rfl (by decide) (by decide) hk1 hFc hP1 hD1
    generalize H1 = H at hP hS ⊢
    have hP : va_P (dC, dI) vwCl (xw h0 h1 h2 h3 cA (tx, n, ch, pl, k, rl, fp) ++ mw g0 g1 g2 cA (tb, n, kb, ln, rd, fp, st, mt, bg)) H := hP
    have hD : va_D (fun q : Nat => s.heap.size ≤ q) (xw h0 h1 h2 h3 cA (tx, n, ch, pl, k, rl, fp) ++ mw g0 g1 g2 cA (tb, n, kb, ln, rd, fp, st, mt, bg)) := hD
    refine lv_icmp_eq (tgt := 369) hx hb dL_law_169 (by decide) (fun c_14 => ?_) (fun c_14 => ?_)
    · have c_14 : 0 = 0 := (nI_eq (a := 0) (b := 0) (by omega) (by omega)).mp c_14
      exact kk tx n ch pl k rl fp tb kb ln rd st mt bg mf bf sg H locs ls R0 hP hD hS (lv_sub hl [0, 1, 2, 3] rfl)
    · exact absurd rfl c_14
set_option maxHeartbeats 4000000 in
set_option maxRecDepth 100000 in
theorem law_c2 {p : Program} {e : Env} {s : State} {m : MethodId} {below : List Frame} {meth : Method} {c : Code} (l : Launch) {b L : Nat} {xs : Nat → Int32} (hL : L ≤ 2048) (C0 : lw_At p s m meth c b L xs) (dC : Nat → ClassId) (dI : Nat → Nat → Nat) (h0 h1 h2 h3 g0 g1 g2 : Nat) (cA : ClassId) (t0 t1 t2 t3 : Nat) (hT : xtab t0 t1 t2 t3 (fun q : Nat => s.heap.size ≤ q) s s.heap) (hK : va_K (dC, dI) vwCl [(cA, .int)] s) (i : Nat) (hi : i + 4 ≤ L) (kk : ∀ (tx : Nat → Int32) (n : Nat) (ch pl : Nat → Int32) (k : Nat) (rl : Int32) (fp : Int32) (tb kb : Nat → Nat) (ln : Nat) (rd : Bool) (st : Nat) (mt bg : Int32) (mf bf sg : Nat → Nat) (H : Heap) (locs : List Loc) (ls : Array Slot), Rel tx n ch pl k rl rd tb kb ln mf bf sg → va_P (dC, dI) vwCl (xw h0 h1 h2 h3 cA (tx, n, ch, pl, k, rl, fp) ++ mw g0 g1 g2 cA (tb, n, kb, ln, rd, fp, st, mt, bg)) H → va_D (fun q : Nat => s.heap.size ≤ q) (xw h0 h1 h2 h3 cA (tx, n, ch, pl, k, rl, fp) ++ mw g0 g1 g2 cA (tb, n, kb, ln, rd, fp, st, mt, bg)) → va_S (fun q : Nat => s.heap.size ≤ q) s.heap H locs → lv_has ls 4 [(3, .int (nI i)), (0, .ref b), (1, .ref h0), (2, .ref g0)] → W p l e room_1 s m #[Value.ref b] below meth c H locs 7 5016 (lw_Z below #[Value.ref b] s) (F0 m 369 ls [])) (tx : Nat → Int32) (n : Nat) (ch pl : Nat → Int32) (k : Nat) (rl : Int32) (fp : Int32) (tb kb : Nat → Nat) (ln : Nat) (rd : Bool) (st : Nat) (mt bg : Int32) (mf bf sg : Nat → Nat) (H : Heap) (locs : List Loc) (ls : Array Slot) (R0 : Rel tx n ch pl k rl rd tb kb ln mf bf sg) (hP : va_P (dC, dI) vwCl (xw h0 h1 h2 h3 cA (tx, n, ch, pl, k, rl, fp) ++ mw g0 g1 g2 cA (tb, n, kb, ln, rd, fp, st, mt, bg)) H) (hD : va_D (fun q : Nat => s.heap.size ≤ q) (xw h0 h1 h2 h3 cA (tx, n, ch, pl, k, rl, fp) ++ mw g0 g1 g2 cA (tb, n, kb, ln, rd, fp, st, mt, bg))) (hS : va_S (fun q : Nat => s.heap.size ≤ q) s.heap H locs) (hl : lv_has ls 4 [(3, .int (nI i)), (0, .ref b), (1, .ref h0), (2, .ref g0)]) : W p l e room_1 s m #[Value.ref b] below meth c H locs 7 5016 (lw_Z below #[Value.ref b] s) (F0 m 174 ls []) := by
  obtain ⟨hx, hb, hr, hml, hown0, hts, hX, hbl, hlocks, hgv⟩ := id C0
  have hown : s.vm.findClass RL = some m.cls := hown0
  have hA : ∀ q : Nat, s.heap.size ≤ q → (fun q : Nat => s.heap.size ≤ q) q := fun _ h => h
  have hbA : ¬ (fun q : Nat => s.heap.size ≤ q) b := Nat.not_le.mpr hbl
  have htsL : ∀ w ∈ wsL_law, w.before #[Value.ref b] s = true := fun w h => hts w (wsL_law_in w h)
  obtain ⟨hn, htx, htb, hkb, hln, hk, hch, hvc, hvp, hpk, hk0, hr0⟩ := id R0
  have hkc := cpN_lt htb hkb n
  have htk : ∀ j, j < n → tx j = nI (cpN kb tb n j) := fun j hj => by rw [cpN, if_pos hj]; exact htx j hj
  have hrt := rt_start hkc htk hn ch pl
  have hRk := xRt_k tx n n 0 ch pl 0 0 (-1)
  have hread := fun sz => c_X0_read l dC dI h0 h1 h2 h3 cA t0 t1 t2 t3 sz tx n ch pl k rl fp hn
  generalize hR : xRt tx n n 0 ch pl 0 0 (-1) = RR at hrt hRk hread
  cases hp : pass1 (cpN kb tb n) n n 0 with
  | some qq =>
    obtain ⟨cd, pla⟩ := qq
    rw [hp] at hrt
    obtain ⟨hf1, hf2, hf3⟩ := hrt
    have e1 : xRead RR = cd := by rw [xRead, if_neg hf1]; exact hf2.symm
    have e2 : xReadU tx n RR = (tx, 0, RR.2.1, RR.2.2.1, 0, -1, nI pla) := by rw [xReadU, if_neg hf1, hf3]
    refine lv_aload_n hx hb dL_law_174 rfl (lv_at hl 2 rfl) ?_
    have hFc := va_free (wc := xw h0 h1 h2 h3 cA (tx, n, ch, pl, k, rl, fp)) hD hS hA [0, 1, 2, 3] rfl
    refine va_calli (va_runV (As := []) (rest := []) ⟨hx, hb, hml, hown, htsL⟩ (hread H.size) (cwV 0 htsL gL_law_X0_read rfl rfl rfl (by decide +kernel) ⟨Nat.le_of_ble_eq_true rfl, Nat.le_of_ble_eq_true rfl⟩) ⟨xmut_blind, va_recv hK hP (ci := 0) (q0 := 0) rfl rfl, fun U hU hW => ⟨rfl, xmut_of (hP.sub (ws' := xw h0 h1 h2 h3 cA (tx, n, ch, pl, k, rl, fp)) [0, 1, 2, 3] rfl) hK (hD.sub (ws' := xw h0 h1 h2 h3 cA (tx, n, ch, pl, k, rl, fp)) [0, 1, 2, 3] (by decide) rfl) hT hS hFc hU hW⟩⟩ rfl rfl hl.1 rfl (lv_room (Nat.le_of_ble_eq_true rfl)) dL_law_175 ⟨Nat.le_of_ble_eq_true rfl, Nat.le_of_ble_eq_true rfl⟩) hS (fun q _ h => hFc q h) hFc (fun r_1 u_1 t_1 H1 locs ht hvm hw hB hz1 hk1 hS => ?_)
    obtain ⟨hw0, hw1⟩ := hw
    obtain rfl : cd = r_1 := (hw0.trans e1).symm
    obtain rfl : u_1 = (tx, 0, RR.2.1, RR.2.2.1, 0, (-1), (nI pla)) := hw1.trans e2
    obtain ⟨hP1, hK1, hD1⟩ := hB
    rw [ht] at hP1
    obtain ⟨hP, hD⟩ := va_join (wr := mw g0 g1 g2 cA (tb, n, kb, ln, rd, fp, st, mt, bg)) (w1 := xw h0 h1 h2 h3 cA (tx, 0, RR.2.1, RR.2.2.1, 0, (-1), (nI pla))) hP hD [0, 1, 2, 3] [4, 5, 6] rfl rfl (by decide) (by decide) hk1 hFc hP1 hD1
    generalize H1 = H at hP hS ⊢
    have hP : va_P (dC, dI) vwCl (xw h0 h1 h2 h3 cA (tx, 0, RR.2.1, RR.2.2.1, 0, (-1), (nI pla)) ++ mw g0 g1 g2 cA (tb, n, kb, ln, rd, fp, st, mt, bg)) H := hP.sub [3, 4, 5, 6, 0, 1, 2] rfl
    have hD : va_D (fun q : Nat => s.heap.size ≤ q) (xw h0 h1 h2 h3 cA (tx, 0, RR.2.1, RR.2.2.1, 0, (-1), (nI pla)) ++ mw g0 g1 g2 cA (tb, n, kb, ln, rd, fp, st, mt, bg)) := hD.sub [3, 4, 5, 6, 0, 1, 2] (by decide) rfl
    refine lv_aload_n hx hb dL_law_178 rfl (lv_at hl 3 rfl) ?_
    have hFc := va_free (wc := mw g0 g1 g2 cA (tb, n, kb, ln, rd, fp, st, mt, bg)) hD hS hA [4, 5, 6] rfl
    refine va_calli (va_runV (As := []) (rest := [.int cd]) ⟨hx, hb, hml, hown, htsL⟩ (c_X1_read_bad l dC dI g0 g1 g2 cA H.size tb n kb ln rd fp st mt bg htb hkb hn cd pla hp) (cwV 0 htsL gL_law_X1_read rfl rfl rfl (by decide +kernel) ⟨Nat.le_of_ble_eq_true rfl, Nat.le_of_ble_eq_true rfl⟩) ⟨mmut_blind, va_recv hK hP (ci := 1) (q0 := 4) rfl rfl, fun U hU hW => ⟨rfl, mmut_of (hP.sub (ws' := mw g0 g1 g2 cA (tb, n, kb, ln, rd, fp, st, mt, bg)) [4, 5, 6] rfl) hK (hD.sub (ws' := mw g0 g1 g2 cA (tb, n, kb, ln, rd, fp, st, mt, bg)) [4, 5, 6] (by decide) rfl) hU hW⟩⟩ rfl rfl hl.1 rfl (lv_room (Nat.le_of_ble_eq_true rfl)) dL_law_179 ⟨Nat.le_of_ble_eq_true rfl, Nat.le_of_ble_eq_true rfl⟩) hS (fun q _ h => hFc q h) hFc (fun r_2 u_2 t_2 H1 locs ht hvm hw hB hz1 hk1 hS => ?_)
    obtain ⟨hw0, st_2, hw1⟩ := hw
    obtain rfl : cd = r_2 := hw0.symm
    obtain rfl : u_2 = (tb, 0, (cpN kb tb n), n, false, (nI pla), st_2, mt, bg) := hw1
    obtain ⟨hP1, hK1, hD1⟩ := hB
    rw [ht] at hP1
    obtain ⟨hP, hD⟩ := va_join (wr := xw h0 h1 h2 h3 cA (tx, 0, RR.2.1, RR.2.2.1, 0, (-1), (nI pla))) (w1 := mw g0 g1 g2 cA (tb, 0, (cpN kb tb n), n, false, (nI pla), st_2, mt, bg)) hP hD [4, 5, 6] [0, 1, 2, 3] rfl rfl (by decide) (by decide) hk1 hFc hP1 hD1
    generalize H1 = H at hP hS ⊢
    have hP : va_P (dC, dI) vwCl (xw h0 h1 h2 h3 cA (tx, 0, RR.2.1, RR.2.2.1, 0, (-1), (nI pla)) ++ mw g0 g1 g2 cA (tb, 0, (cpN kb tb n), n, false, (nI pla), st_2, mt, bg)) H := hP
    have hD : va_D (fun q : Nat => s.heap.size ≤ q) (xw h0 h1 h2 h3 cA (tx, 0, RR.2.1, RR.2.2.1, 0, (-1), (nI pla)) ++ mw g0 g1 g2 cA (tb, 0, (cpN kb tb n), n, false, (nI pla), st_2, mt, bg)) := hD
    refine lv_icmp_eq (tgt := 369) hx hb dL_law_182 (by decide) (fun c_3 => ?_) (fun c_3 => ?_)
    · have R1 : Rel tx 0 RR.2.1 RR.2.2.1 0 (-1) false tb (cpN kb tb n) n mf bf sg := ⟨by omega, fun j hj => absurd hj (Nat.not_lt_zero j), htb, hkc, hn, by omega, fun z => absurd z (by decide), fun j hj => absurd hj (Nat.not_lt_zero j), fun j hj => absurd hj (Nat.not_lt_zero j), fun z => absurd z (by decide), fun _ => rfl, fun _ => rfl⟩
      exact kk tx 0 RR.2.1 RR.2.2.1 0 (-1) (nI pla) tb (cpN kb tb n) n false st_2 mt bg mf bf sg H locs ls R1 hP hD hS (lv_sub hl [0, 1, 2, 3] rfl)
    · exact absurd rfl c_3
  | none =>
    rw [hp] at hrt
    obtain ⟨hf1, hf2, mf2, bf2, sg2, hch2, hval2⟩ := hrt
    have e1 : xRead RR = nI RR.2.2.2.1 := by rw [xRead, if_pos hf1]
    have e2 : xReadU tx n RR = (tx, 0, RR.2.1, RR.2.2.1, RR.2.2.2.1, nI n, -1) := by rw [xReadU, if_pos hf1, hf2]
    have hk2 : RR.2.2.2.1 ≤ 1000 := by omega
    refine lv_aload_n hx hb dL_law_174 rfl (lv_at hl 2 rfl) ?_
    have hFc := va_free (wc := xw h0 h1 h2 h3 cA (tx, n, ch, pl, k, rl, fp)) hD hS hA [0, 1, 2, 3] rfl
    refine va_calli (va_runV (As := []) (rest := []) ⟨hx, hb, hml, hown, htsL⟩ (hread H.size) (cwV 0 htsL gL_law_X0_read rfl rfl rfl (by decide +kernel) ⟨Nat.le_of_ble_eq_true rfl, Nat.le_of_ble_eq_true rfl⟩) ⟨xmut_blind, va_recv hK hP (ci := 0) (q0 := 0) rfl rfl, fun U hU hW => ⟨rfl, xmut_of (hP.sub (ws' := xw h0 h1 h2 h3 cA (tx, n, ch, pl, k, rl, fp)) [0, 1, 2, 3] rfl) hK (hD.sub (ws' := xw h0 h1 h2 h3 cA (tx, n, ch, pl, k, rl, fp)) [0, 1, 2, 3] (by decide) rfl) hT hS hFc hU hW⟩⟩ rfl rfl hl.1 rfl (lv_room (Nat.le_of_ble_eq_true rfl)) dL_law_175 ⟨Nat.le_of_ble_eq_true rfl, Nat.le_of_ble_eq_true rfl⟩) hS (fun q _ h => hFc q h) hFc (fun r_4 u_4 t_4 H1 locs ht hvm hw hB hz1 hk1 hS => ?_)
    obtain ⟨hw0, hw1⟩ := hw
    obtain rfl : r_4 = nI RR.2.2.2.1 := hw0.trans e1
    obtain rfl : u_4 = (tx, 0, RR.2.1, RR.2.2.1, RR.2.2.2.1, (nI n), (-1)) := hw1.trans e2
    obtain ⟨hP1, hK1, hD1⟩ := hB
    rw [ht] at hP1
    obtain ⟨hP, hD⟩ := va_join (wr := mw g0 g1 g2 cA (tb, n, kb, ln, rd, fp, st, mt, bg)) (w1 := xw h0 h1 h2 h3 cA (tx, 0, RR.2.1, RR.2.2.1, RR.2.2.2.1, (nI n), (-1))) hP hD [0, 1, 2, 3] [4, 5, 6] rfl rfl (by decide) (by decide) hk1 hFc hP1 hD1
    generalize H1 = H at hP hS ⊢
    have hP : va_P (dC, dI) vwCl (xw h0 h1 h2 h3 cA (tx, 0, RR.2.1, RR.2.2.1, RR.2.2.2.1, (nI n), (-1)) ++ mw g0 g1 g2 cA (tb, n, kb, ln, rd, fp, st, mt, bg)) H := hP.sub [3, 4, 5, 6, 0, 1, 2] rfl
    have hD : va_D (fun q : Nat => s.heap.size ≤ q) (xw h0 h1 h2 h3 cA (tx, 0, RR.2.1, RR.2.2.1, RR.2.2.2.1, (nI n), (-1)) ++ mw g0 g1 g2 cA (tb, n, kb, ln, rd, fp, st, mt, bg)) := hD.sub [3, 4, 5, 6, 0, 1, 2] (by decide) rfl
    refine lv_aload_n hx hb dL_law_178 rfl (lv_at hl 3 rfl) ?_
    have hFc := va_free (wc := mw g0 g1 g2 cA (tb, n, kb, ln, rd, fp, st, mt, bg)) hD hS hA [4, 5, 6] rfl
    refine va_calli (va_runV (As := []) (rest := [.int (nI RR.2.2.2.1)]) ⟨hx, hb, hml, hown, htsL⟩ (c_X1_read_ok l dC dI g0 g1 g2 cA H.size tb n kb ln rd fp st mt bg htb hkb hn hp RR.2.2.2.1 hk2 mf2 bf2 sg2 hch2) (cwV 0 htsL gL_law_X1_read rfl rfl rfl (by decide +kernel) ⟨Nat.le_of_ble_eq_true rfl, Nat.le_of_ble_eq_true rfl⟩) ⟨mmut_blind, va_recv hK hP (ci := 1) (q0 := 4) rfl rfl, fun U hU hW => ⟨rfl, mmut_of (hP.sub (ws' := mw g0 g1 g2 cA (tb, n, kb, ln, rd, fp, st, mt, bg)) [4, 5, 6] rfl) hK (hD.sub (ws' := mw g0 g1 g2 cA (tb, n, kb, ln, rd, fp, st, mt, bg)) [4, 5, 6] (by decide) rfl) hU hW⟩⟩ rfl rfl hl.1 rfl (lv_room (Nat.le_of_ble_eq_true rfl)) dL_law_179 ⟨Nat.le_of_ble_eq_true rfl, Nat.le_of_ble_eq_true rfl⟩) hS (fun q _ h => hFc q h) hFc (fun r_5 u_5 t_5 H1 locs ht hvm hw hB hz1 hk1 hS => ?_)
    obtain ⟨hw0, st_5, mt_5, bg_5, hw1⟩ := hw
    obtain rfl : r_5 = nI RR.2.2.2.1 := hw0
    obtain rfl : u_5 = (tb, 0, (cpN kb tb n), n, true, (-1), st_5, mt_5, bg_5) := hw1
    obtain ⟨hP1, hK1, hD1⟩ := hB
    rw [ht] at hP1
    obtain ⟨hP, hD⟩ := va_join (wr := xw h0 h1 h2 h3 cA (tx, 0, RR.2.1, RR.2.2.1, RR.2.2.2.1, (nI n), (-1))) (w1 := mw g0 g1 g2 cA (tb, 0, (cpN kb tb n), n, true, (-1), st_5, mt_5, bg_5)) hP hD [4, 5, 6] [0, 1, 2, 3] rfl rfl (by decide) (by decide) hk1 hFc hP1 hD1
    generalize H1 = H at hP hS ⊢
    have hP : va_P (dC, dI) vwCl (xw h0 h1 h2 h3 cA (tx, 0, RR.2.1, RR.2.2.1, RR.2.2.2.1, (nI n), (-1)) ++ mw g0 g1 g2 cA (tb, 0, (cpN kb tb n), n, true, (-1), st_5, mt_5, bg_5)) H := hP
    have hD : va_D (fun q : Nat => s.heap.size ≤ q) (xw h0 h1 h2 h3 cA (tx, 0, RR.2.1, RR.2.2.1, RR.2.2.2.1, (nI n), (-1)) ++ mw g0 g1 g2 cA (tb, 0, (cpN kb tb n), n, true, (-1), st_5, mt_5, bg_5)) := hD
    refine lv_icmp_eq (tgt := 369) hx hb dL_law_182 (by decide) (fun c_6 => ?_) (fun c_6 => ?_)
    · have R1 : Rel tx 0 RR.2.1 RR.2.2.1 RR.2.2.2.1 (nI n) true tb (cpN kb tb n) n mf2 bf2 sg2 := ⟨by omega, fun j hj => absurd hj (Nat.not_lt_zero j), htb, hkc, hn, hk2, fun _ => hch2, fun j hj => (hval2 j hj).1, fun j hj => (hval2 j hj).2, fun _ => rfl, fun z => absurd z (by decide), fun z => absurd z (by decide)⟩
      exact kk tx 0 RR.2.1 RR.2.2.1 RR.2.2.2.1 (nI n) (-1) tb (cpN kb tb n) n true st_5 mt_5 bg_5 mf2 bf2 sg2 H locs ls R1 hP hD hS (lv_sub hl [0, 1, 2, 3] rfl)
    · exact absurd rfl c_6
