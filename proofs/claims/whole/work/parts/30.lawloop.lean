theorem law_lt4 {L i : Nat} (hL : L ≤ 2048) (hi : i ≤ 3000) : (Int32.ofNat L - 4 < nI i) ↔ L < i + 4 := by
  show (nI L - nI 4 < nI i) ↔ _
  rw [Int32.lt_iff_toInt_lt, sub_toInt (by omega) (by omega), nI_toInt (by omega)]
  omega
set_option maxHeartbeats 4000000 in
set_option maxRecDepth 100000 in
theorem law_loop {p : Program} {e : Env} {s : State} {m : MethodId} {below : List Frame} {meth : Method} {c : Code} (l : Launch) {b L : Nat} {xs : Nat → Int32} (hL : L ≤ 2048) (C0 : lw_At p s m meth c b L xs) (dC : Nat → ClassId) (dI : Nat → Nat → Nat) (h0 h1 h2 h3 g0 g1 g2 : Nat) (cA : ClassId) (t0 t1 t2 t3 : Nat) (hT : xtab t0 t1 t2 t3 (fun q : Nat => s.heap.size ≤ q) s s.heap) (hK : va_K (dC, dI) vwCl [(cA, .int)] s) : ∀ (d i : Nat) (tx : Nat → Int32) (n : Nat) (ch pl : Nat → Int32) (k : Nat) (rl : Int32) (fp : Int32) (tb kb : Nat → Nat) (ln : Nat) (rd : Bool) (st : Nat) (mt bg : Int32) (mf bf sg : Nat → Nat) (H : Heap) (locs : List Loc) (ls : Array Slot), L ≤ i + d → i ≤ 3000 → Rel tx n ch pl k rl rd tb kb ln mf bf sg → va_P (dC, dI) vwCl (xw h0 h1 h2 h3 cA (tx, n, ch, pl, k, rl, fp) ++ mw g0 g1 g2 cA (tb, n, kb, ln, rd, fp, st, mt, bg)) H → va_D (fun q : Nat => s.heap.size ≤ q) (xw h0 h1 h2 h3 cA (tx, n, ch, pl, k, rl, fp) ++ mw g0 g1 g2 cA (tb, n, kb, ln, rd, fp, st, mt, bg)) → va_S (fun q : Nat => s.heap.size ≤ q) s.heap H locs → lv_has ls 4 [(3, .int (nI i)), (0, .ref b), (1, .ref h0), (2, .ref g0)] → W p l e room_1 s m #[Value.ref b] below meth c H locs 7 5016 (lw_Z below #[Value.ref b] s) (F0 m 18 ls []) := by
  obtain ⟨hx, hb, hr, hml, hown0, hts, hX, hbl, hlocks, hgv⟩ := id C0
  have hown : s.vm.findClass RL = some m.cls := hown0
  have hA : ∀ q : Nat, s.heap.size ≤ q → (fun q : Nat => s.heap.size ≤ q) q := fun _ h => h
  have hbA : ¬ (fun q : Nat => s.heap.size ≤ q) b := Nat.not_le.mpr hbl
  have htsL : ∀ w ∈ wsL_law, w.before #[Value.ref b] s = true := fun w h => hts w (wsL_law_in w h)
  intro d
  induction d with
  | zero =>
    intro i tx n ch pl k rl fp tb kb ln rd st mt bg mf bf sg H locs ls hid hi3 R0 hP hD hS hl
    refine lv_iload_n hx hb dL_law_18 rfl (lv_at hl 0 rfl) ?_
    refine lv_aload_n hx hb dL_law_19 rfl (lv_at hl 1 rfl) ?_
    refine va_slen hx hb hX hbl hbA hS dL_law_20 ?_
    refine lv_iconst (v := 4) hx hb dL_law_21 (by decide) ?_
    refine lv_isub hx hb dL_law_22 ?_
    refine lv_icmp_gt (tgt := 375) hx hb dL_law_23 (by decide) (fun c_1 => ?_) (fun c_1 => ?_)
    · refine lv_iconst (v := 1) hx hb dL_law_375 (by decide) ?_
      refine va_forget (fun q hq => hS.2.2 q hq) ?_
      exact lw_ret hx hb hr hlocks dL_law_376
    · exact absurd ((law_lt4 hL hi3).mpr (by omega)) c_1
  | succ d ih =>
    intro i tx n ch pl k rl fp tb kb ln rd st mt bg mf bf sg H locs ls hid hi3 R0 hP hD hS hl
    refine lv_iload_n hx hb dL_law_18 rfl (lv_at hl 0 rfl) ?_
    refine lv_aload_n hx hb dL_law_19 rfl (lv_at hl 1 rfl) ?_
    refine va_slen hx hb hX hbl hbA hS dL_law_20 ?_
    refine lv_iconst (v := 4) hx hb dL_law_21 (by decide) ?_
    refine lv_isub hx hb dL_law_22 ?_
    refine lv_icmp_gt (tgt := 375) hx hb dL_law_23 (by decide) (fun c_2 => ?_) (fun c_2 => ?_)
    · refine lv_iconst (v := 1) hx hb dL_law_375 (by decide) ?_
      refine va_forget (fun q hq => hS.2.2 q hq) ?_
      exact lw_ret hx hb hr hlocks dL_law_376
    · have hi4 : i + 4 ≤ L := Nat.le_of_not_lt (fun z => c_2 ((law_lt4 hL hi3).mpr z))
      refine lv_aload_n hx hb dL_law_26 rfl (lv_at hl 1 rfl) ?_
      refine lv_iload_n hx hb dL_law_27 rfl (lv_at hl 0 rfl) ?_
      refine va_sld hx hb hX hbl hbA hS (vp_in_nI (by omega) (by omega)) dL_law_28 ?_
      refine lv_topi (fun x_3 ex_3 => ?_)
      obtain rfl : x_3 = xs i := ex_3.trans (by rw [nI_clamp (by omega)])
      refine lv_bipush (v := 15) hx hb dL_law_29 (by decide) ?_
      refine lv_iand hx hb dL_law_31 ?_
      have kk : ∀ (tx : Nat → Int32) (n : Nat) (ch pl : Nat → Int32) (k : Nat) (rl : Int32) (fp : Int32) (tb kb : Nat → Nat) (ln : Nat) (rd : Bool) (st : Nat) (mt bg : Int32) (mf bf sg : Nat → Nat) (H : Heap) (locs : List Loc) (ls : Array Slot), Rel tx n ch pl k rl rd tb kb ln mf bf sg → va_P (dC, dI) vwCl (xw h0 h1 h2 h3 cA (tx, n, ch, pl, k, rl, fp) ++ mw g0 g1 g2 cA (tb, n, kb, ln, rd, fp, st, mt, bg)) H → va_D (fun q : Nat => s.heap.size ≤ q) (xw h0 h1 h2 h3 cA (tx, n, ch, pl, k, rl, fp) ++ mw g0 g1 g2 cA (tb, n, kb, ln, rd, fp, st, mt, bg)) → va_S (fun q : Nat => s.heap.size ≤ q) s.heap H locs → lv_has ls 4 [(3, .int (nI i)), (0, .ref b), (1, .ref h0), (2, .ref g0)] → W p l e room_1 s m #[Value.ref b] below meth c H locs 7 5016 (lw_Z below #[Value.ref b] s) (F0 m 369 ls []) := by
        intro tx n ch pl k rl fp tb kb ln rd st mt bg mf bf sg H locs ls R0 hP hD hS hl
        refine lv_iinc (v := nI (i + 4)) (lv' := [(3, .int (nI (i + 4))), (0, .ref b), (1, .ref h0), (2, .ref g0)]) hx hb dL_law_369 hl (k := 0) rfl (nI_add i 4) (by decide) rfl (fun ls hl => ?_)
        refine lv_goto (tgt := 18) hx hb dL_law_372 (by decide) ?_
        exact ih (i + 4) tx n ch pl k rl fp tb kb ln rd st mt bg mf bf sg H locs ls (by omega) (by omega) R0 hP hD hS hl
      obtain ⟨rr, hr16, her⟩ := pk_andE (xs i) (m := 15) 4 (by decide)
      rw [her]
      rcases (show rr = 0 ∨ rr = 1 ∨ rr = 2 ∨ rr = 3 ∨ rr = 4 ∨ rr = 5 ∨ rr = 6 ∨ rr = 7 ∨ rr = 8 ∨ rr = 9 ∨ rr = 10 ∨ rr = 11 ∨ rr = 12 ∨ rr = 13 ∨ rr = 14 ∨ rr = 15 by omega) with rfl | rfl | rfl | rfl | rfl | rfl | rfl | rfl | rfl | rfl | rfl | rfl | rfl | rfl | rfl | rfl
      · refine lv_tableIn (tgt := 88) hx hb dL_law_32 (by decide) (by decide) rfl (by decide) ?_
        exact law_c0 l hL C0 dC dI h0 h1 h2 h3 g0 g1 g2 cA t0 t1 t2 t3 hT hK i hi4 kk tx n ch pl k rl fp tb kb ln rd st mt bg mf bf sg H locs ls R0 hP hD hS hl
      · refine lv_tableIn (tgt := 151) hx hb dL_law_32 (by decide) (by decide) rfl (by decide) ?_
        exact law_c1 l hL C0 dC dI h0 h1 h2 h3 g0 g1 g2 cA t0 t1 t2 t3 hT hK i hi4 kk tx n ch pl k rl fp tb kb ln rd st mt bg mf bf sg H locs ls R0 hP hD hS hl
      · refine lv_tableIn (tgt := 174) hx hb dL_law_32 (by decide) (by decide) rfl (by decide) ?_
        exact law_c2 l hL C0 dC dI h0 h1 h2 h3 g0 g1 g2 cA t0 t1 t2 t3 hT hK i hi4 kk tx n ch pl k rl fp tb kb ln rd st mt bg mf bf sg H locs ls R0 hP hD hS hl
      · refine lv_tableIn (tgt := 187) hx hb dL_law_32 (by decide) (by decide) rfl (by decide) ?_
        exact law_c3 l hL C0 dC dI h0 h1 h2 h3 g0 g1 g2 cA t0 t1 t2 t3 hT hK i hi4 kk tx n ch pl k rl fp tb kb ln rd st mt bg mf bf sg H locs ls R0 hP hD hS hl
      · refine lv_tableIn (tgt := 200) hx hb dL_law_32 (by decide) (by decide) rfl (by decide) ?_
        exact law_c4 l hL C0 dC dI h0 h1 h2 h3 g0 g1 g2 cA t0 t1 t2 t3 hT hK i hi4 kk tx n ch pl k rl fp tb kb ln rd st mt bg mf bf sg H locs ls R0 hP hD hS hl
      · refine lv_tableIn (tgt := 223) hx hb dL_law_32 (by decide) (by decide) rfl (by decide) ?_
        exact law_c5 l hL C0 dC dI h0 h1 h2 h3 g0 g1 g2 cA t0 t1 t2 t3 hT hK i hi4 kk tx n ch pl k rl fp tb kb ln rd st mt bg mf bf sg H locs ls R0 hP hD hS hl
      · refine lv_tableIn (tgt := 246) hx hb dL_law_32 (by decide) (by decide) rfl (by decide) ?_
        exact law_c6 l hL C0 dC dI h0 h1 h2 h3 g0 g1 g2 cA t0 t1 t2 t3 hT hK i hi4 kk tx n ch pl k rl fp tb kb ln rd st mt bg mf bf sg H locs ls R0 hP hD hS hl
      · refine lv_tableIn (tgt := 269) hx hb dL_law_32 (by decide) (by decide) rfl (by decide) ?_
        exact law_c7 l hL C0 dC dI h0 h1 h2 h3 g0 g1 g2 cA t0 t1 t2 t3 hT hK i hi4 kk tx n ch pl k rl fp tb kb ln rd st mt bg mf bf sg H locs ls R0 hP hD hS hl
      · refine lv_tableIn (tgt := 302) hx hb dL_law_32 (by decide) (by decide) rfl (by decide) ?_
        exact law_c8 l hL C0 dC dI h0 h1 h2 h3 g0 g1 g2 cA t0 t1 t2 t3 hT hK i hi4 kk tx n ch pl k rl fp tb kb ln rd st mt bg mf bf sg H locs ls R0 hP hD hS hl
      · refine lv_tableIn (tgt := 345) hx hb dL_law_32 (by decide) (by decide) rfl (by decide) ?_
        exact law_c9 l hL C0 dC dI h0 h1 h2 h3 g0 g1 g2 cA t0 t1 t2 t3 hT hK i hi4 kk tx n ch pl k rl fp tb kb ln rd st mt bg mf bf sg H locs ls R0 hP hD hS hl
      · refine lv_tableOut (tgt := 369) hx hb dL_law_32 (by decide) (by decide) ?_
        exact kk tx n ch pl k rl fp tb kb ln rd st mt bg mf bf sg H locs ls R0 hP hD hS hl
      · refine lv_tableOut (tgt := 369) hx hb dL_law_32 (by decide) (by decide) ?_
        exact kk tx n ch pl k rl fp tb kb ln rd st mt bg mf bf sg H locs ls R0 hP hD hS hl
      · refine lv_tableOut (tgt := 369) hx hb dL_law_32 (by decide) (by decide) ?_
        exact kk tx n ch pl k rl fp tb kb ln rd st mt bg mf bf sg H locs ls R0 hP hD hS hl
      · refine lv_tableOut (tgt := 369) hx hb dL_law_32 (by decide) (by decide) ?_
        exact kk tx n ch pl k rl fp tb kb ln rd st mt bg mf bf sg H locs ls R0 hP hD hS hl
      · refine lv_tableOut (tgt := 369) hx hb dL_law_32 (by decide) (by decide) ?_
        exact kk tx n ch pl k rl fp tb kb ln rd st mt bg mf bf sg H locs ls R0 hP hD hS hl
      · refine lv_tableOut (tgt := 369) hx hb dL_law_32 (by decide) (by decide) ?_
        exact kk tx n ch pl k rl fp tb kb ln rd st mt bg mf bf sg H locs ls R0 hP hD hS hl
set_option maxHeartbeats 4000000 in
set_option maxRecDepth 100000 in
theorem whole_start {p : Program} {e : Env} {s : State} {m : MethodId} {below : List Frame} {meth : Method} {c : Code} (l : Launch) {b L : Nat} {xs : Nat → Int32} (hL : L ≤ 2048) (C0 : lw_At p s m meth c b L xs) : W p l e room_1 s m #[Value.ref b] below meth c s.heap [] 0 0 (lw_Z below #[Value.ref b] s) (entryFrame m ([Value.ref b] : List Value).toArray 4) := by
  obtain ⟨hx, hb, hr, hml, hown0, hts, hX, hbl, hlocks, hgv⟩ := id C0
  have hown : s.vm.findClass RL = some m.cls := hown0
  have hA : ∀ q : Nat, s.heap.size ≤ q → (fun q : Nat => s.heap.size ≤ q) q := fun _ h => h
  have hbA : ¬ (fun q : Nat => s.heap.size ≤ q) b := Nat.not_le.mpr hbl
  have htsL : ∀ w ∈ wsL_law, w.before #[Value.ref b] s = true := fun w h => hts w (wsL_law_in w h)
  obtain ⟨t0, t1, t2, t3, hT⟩ := law_tabs hts hgv
  obtain ⟨c0, iS0, hKn0⟩ := u_known (C := RX0) (T := TX0) (N := 7) (n := 7) hts inX0 (hts (.instantiable RX0 7) (by decide +kernel))
  obtain ⟨c1, iS1, hKn1⟩ := u_known (C := RX1) (T := TX1) (N := 9) (n := 9) hts inX1 (hts (.instantiable RX1 9) (by decide +kernel))
  obtain ⟨dC, dI, hKc⟩ : ∃ (dC : Nat → ClassId) (dI : Nat → Nat → Nat), ∀ (k : Nat) (q : vw_C), vwCl[k]? = some q → u_Kn s q.1 q.2.1 q.2.2 (dC k) (dI k) := by
    refine ⟨fun k => if k = 0 then c0 else c1, fun k => if k = 0 then iS0 else iS1, ?_⟩
    intro k q hq
    match k, hq with
    | 0, hq => cases hq; exact hKn0
    | 1, hq => cases hq; exact hKn1
    | k + 2, hq => simp [vwCl] at hq
  have hS : va_S (fun q : Nat => s.heap.size ≤ q) s.heap s.heap [] := va_S.rf
  have hK : va_K (dC, dI) vwCl [] s := ⟨hKc, fun k q h => by simp at h⟩
  have hP : va_P (dC, dI) vwCl [] s.heap := fun k q h => by simp at h
  have hD : va_D (fun q : Nat => s.heap.size ≤ q) [] := ⟨fun i j p q h => by simp at h, fun k q h => by simp at h⟩
  have hl := lv_entry ([.ref b]) (n := 4) (Nat.le_of_ble_eq_true rfl)
  rw [lg_entry_eq]
  generalize (lg_sl ([.ref b]) ++ List.replicate (4 - (lg_sl ([.ref b])).length) Slot.unset).toArray = ls at hl ⊢
  have hl : lv_has ls 4 [(0, .ref b)] := hl
  refine va_new (ci := 0) (fs := [.null, .int 0, .null, .null, .int 0, .int 0, .int 0]) (C := RX0) (T := TX0) (N := 7) hx hb hts inX0 tyX0 tyX0_ok hown (hts (.classLink RL 7 RX0) (by decide +kernel)) (hts (.instantiable RX0 7) (by decide +kernel)) (hts (.initialized RX0) (by decide +kernel)) hK hP hD hS hA rfl (fun j hj => by rcases (show j = 0 ∨ j = 1 ∨ j = 2 ∨ j = 3 ∨ j = 4 ∨ j = 5 ∨ j = 6 by omega) with rfl | rfl | rfl | rfl | rfl | rfl | rfl <;> rfl) (Nat.le_of_ble_eq_true rfl) (Nat.le_of_ble_eq_true rfl) dL_law_0 (fun h0 H hP hD hS => ?_)
  have hP : va_P (dC, dI) vwCl [(h0, .inr (0, [.null, .int 0, .null, .null, .int 0, .int 0, .int 0]))] H := hP
  have hD : va_D (fun q : Nat => s.heap.size ≤ q) [(h0, .inr (0, [.null, .int 0, .null, .null, .int 0, .int 0, .int 0]))] := hD
  refine lv_dup hx hb dL_law_3 rfl ?_
  have hFc := va_free (wc := [(h0, .inr (0, [.null, .int 0, .null, .null, .int 0, .int 0, .int 0]))]) hD hS hA [0] rfl
  refine va_callv (va_runI (As := []) (rest := [.ref h0]) ⟨hx, hb, hml, hown, htsL⟩ (c_X0_init l dC dI h0 H.size) (cwI 0 htsL gL_law_X0_init rfl rfl rfl (hts (.initialized RX0) (by decide +kernel)) (hts (.methodLink RL 9 yX0_init) (by decide +kernel)) (hts (.instanceMethod yX0_init) (by decide +kernel)) rfl (by decide +kernel) ⟨Nat.le_of_ble_eq_true rfl, Nat.le_of_ble_eq_true rfl⟩) ⟨fun a U g mk q => by obtain ⟨q0, q1, qP, qK, qD⟩ := q; exact ⟨q0, q1, qP, va_K.moved (u := U) (U := U.calling g mk a) (Vm.Alike.refl U.vm) qK, qD⟩, fun U hU hW => ⟨rfl, by rw [hU], by rw [hU]; exact (hP.sub (ws' := [(h0, .inr (0, [.null, .int 0, .null, .null, .int 0, .int 0, .int 0]))]) [0] rfl), va_K.moved hW.alike (hK.sub (tys' := []) [] rfl), (hD.sub (ws' := [(h0, .inr (0, [.null, .int 0, .null, .null, .int 0, .int 0, .int 0]))]) [0] (by decide) rfl).weaken (fun _ _ _ _ => trivial)⟩⟩ rfl rfl hl.1 rfl (lv_room (Nat.le_of_ble_eq_true rfl)) dL_law_4 ⟨Nat.le_of_ble_eq_true rfl, Nat.le_of_ble_eq_true rfl⟩) hS (fun q _ h => hFc q h) hFc (fun u t H1 locs ht hvm hw hB hz1 hk1 hS => ?_)
  obtain rfl : u = ((fun _ => 0), 0, (fun _ => 0), (fun _ => 0), 0, (-1), (-1)) := hw
  obtain ⟨h1, h2, h3, cA, hP1, hK1, hD1⟩ := hB
  rw [ht] at hP1
  have hK : va_K (dC, dI) vwCl [(cA, .int)] s := va_K.moved hvm.symm hK1
  obtain ⟨hP, hD⟩ := va_join (wr := []) (w1 := xw h0 h1 h2 h3 cA ((fun _ => 0), 0, (fun _ => 0), (fun _ => 0), 0, (-1), (-1))) hP hD [0] [] rfl rfl (by decide) (by decide) hk1 hFc hP1 hD1
  generalize H1 = H at hP hS ⊢
  have hP : va_P (dC, dI) vwCl (xw h0 h1 h2 h3 cA ((fun _ => 0), 0, (fun _ => 0), (fun _ => 0), 0, (-1), (-1))) H := hP
  have hD : va_D (fun q : Nat => s.heap.size ≤ q) (xw h0 h1 h2 h3 cA ((fun _ => 0), 0, (fun _ => 0), (fun _ => 0), 0, (-1), (-1))) := hD
  refine lv_astore_n (lv' := [(1, .ref h0), (0, .ref b)]) hx hb dL_law_7 rfl hl (by decide) rfl (fun ls hl => ?_)
  refine va_new (ci := 1) (fs := [.null, .int 0, .null, .int 0, .int 0, .int 0, .int 0, .int 0, .int 0]) (C := RX1) (T := TX1) (N := 9) hx hb hts inX1 tyX1 tyX1_ok hown (hts (.classLink RL 10 RX1) (by decide +kernel)) (hts (.instantiable RX1 9) (by decide +kernel)) (hts (.initialized RX1) (by decide +kernel)) hK hP hD hS hA rfl (fun j hj => by rcases (show j = 0 ∨ j = 1 ∨ j = 2 ∨ j = 3 ∨ j = 4 ∨ j = 5 ∨ j = 6 ∨ j = 7 ∨ j = 8 by omega) with rfl | rfl | rfl | rfl | rfl | rfl | rfl | rfl | rfl <;> rfl) (Nat.le_of_ble_eq_true rfl) (Nat.le_of_ble_eq_true rfl) dL_law_8 (fun g0 H hP hD hS => ?_)
  refine lv_dup hx hb dL_law_11 rfl ?_
  have hFc := va_free (wc := [(g0, .inr (1, [.null, .int 0, .null, .int 0, .int 0, .int 0, .int 0, .int 0, .int 0]))]) hD hS hA [4] rfl
  refine va_callv (va_runI (As := []) (rest := [.ref g0]) ⟨hx, hb, hml, hown, htsL⟩ (c_X1_init l dC dI g0 H.size) (cwI 0 htsL gL_law_X1_init rfl rfl rfl (hts (.initialized RX1) (by decide +kernel)) (hts (.methodLink RL 12 yX1_init) (by decide +kernel)) (hts (.instanceMethod yX1_init) (by decide +kernel)) rfl (by decide +kernel) ⟨Nat.le_of_ble_eq_true rfl, Nat.le_of_ble_eq_true rfl⟩) ⟨fun a U g mk q => by obtain ⟨q0, q1, qP, qK, qD⟩ := q; exact ⟨q0, q1, qP, va_K.moved (u := U) (U := U.calling g mk a) (Vm.Alike.refl U.vm) qK, qD⟩, fun U hU hW => ⟨rfl, by rw [hU], by rw [hU]; exact (hP.sub (ws' := [(g0, .inr (1, [.null, .int 0, .null, .int 0, .int 0, .int 0, .int 0, .int 0, .int 0]))]) [4] rfl), va_K.moved hW.alike (hK.sub (tys' := []) [] rfl), (hD.sub (ws' := [(g0, .inr (1, [.null, .int 0, .null, .int 0, .int 0, .int 0, .int 0, .int 0, .int 0]))]) [4] (by decide) rfl).weaken (fun _ _ _ _ => trivial)⟩⟩ rfl rfl hl.1 rfl (lv_room (Nat.le_of_ble_eq_true rfl)) dL_law_12 ⟨Nat.le_of_ble_eq_true rfl, Nat.le_of_ble_eq_true rfl⟩) hS (fun q _ h => hFc q h) hFc (fun u t H1 locs ht hvm hw hB hz1 hk1 hS => ?_)
  obtain rfl : u = ((fun _ => 0), 0, (fun _ => 0), 0, false, (-1), 0, 0, 0) := hw
  obtain ⟨g1, g2, cA2, hP1, hK1, hD1⟩ := hB
  rw [ht] at hP1
  have hK2 : va_K (dC, dI) vwCl [(cA2, .int)] s := va_K.moved hvm.symm hK1
  obtain rfl : cA = cA2 := va_cAeq (hK.app hK2)
  obtain ⟨hP, hD⟩ := va_join (wr := xw h0 h1 h2 h3 cA ((fun _ => 0), 0, (fun _ => 0), (fun _ => 0), 0, (-1), (-1))) (w1 := mw g0 g1 g2 cA ((fun _ => 0), 0, (fun _ => 0), 0, false, (-1), 0, 0, 0)) hP hD [4] [0, 1, 2, 3] rfl rfl (by decide) (by decide) hk1 hFc hP1 hD1
  generalize H1 = H at hP hS ⊢
  refine lv_astore_n (lv' := [(2, .ref g0), (1, .ref h0), (0, .ref b)]) hx hb dL_law_15 rfl hl (by decide) rfl (fun ls hl => ?_)
  refine lv_iconst (v := 0) hx hb dL_law_16 (by decide) ?_
  refine lv_istore_n (lv' := [(3, .int 0), (2, .ref g0), (1, .ref h0), (0, .ref b)]) hx hb dL_law_17 rfl hl (by decide) rfl (fun ls hl => ?_)
  have R0 : Rel (fun _ => 0) 0 (fun _ => 0) (fun _ => 0) 0 (-1) false (fun _ => 0) (fun _ => 0) 0 (fun _ => 0) (fun _ => 0) (fun _ => 0) := ⟨by omega, fun j hj => absurd hj (Nat.not_lt_zero j), fun _ => Nat.zero_lt_succ _, fun _ => Nat.zero_lt_succ _, by omega, by omega, fun z => absurd z (by decide), fun j hj => absurd hj (Nat.not_lt_zero j), fun j hj => absurd hj (Nat.not_lt_zero j), fun z => absurd z (by decide), fun _ => rfl, fun _ => rfl⟩
  refine W.widen (k := 7) (n := 5016) (Nat.le_of_ble_eq_true rfl) (Nat.le_of_ble_eq_true rfl) ?_
  exact law_loop l hL C0 dC dI h0 h1 h2 h3 g0 g1 g2 cA t0 t1 t2 t3 hT hK L 0 _ 0 _ _ 0 (-1) (-1) _ _ 0 false 0 0 0 _ _ _ H locs ls (by omega) (by omega) R0 hP hD hS (lv_sub hl [0, 3, 2, 1] rfl)
