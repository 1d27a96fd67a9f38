set_option maxHeartbeats 4000000 in
set_option maxRecDepth 100000 in
theorem c_X0_append (l : Launch) (dC : Nat → ClassId) (dI : Nat → Nat → Nat) (h0 h1 h2 h3 : Nat) (cA : ClassId) (t0 t1 t2 t3 : Nat) (sz : Nat) (tx : Nat → Int32) (n : Nat) (ch pl : Nat → Int32) (k : Nat) (rl : Int32) (fp : Int32) (v : Int32) (hn : n < 1000) : Met l yX0_append wsX0_append ({ frames := 0, cells := 0, slots := 0, locals := 0 }) (va_Pc [.ref h0, .int v] (fun U => xmut dC dI h0 h1 h2 h3 cA t0 t1 t2 t3 sz (tx, n, ch, pl, k, rl, fp) U)) (va_Qv (fun u : XS => u = (upd tx n v, n + 1, ch, pl, k, rl, fp)) (xatt dC dI h0 h1 h2 h3 cA (va_A (xw h0 h1 h2 h3 cA (tx, n, ch, pl, k, rl, fp)) sz)) (va_A (xw h0 h1 h2 h3 cA (tx, n, ch, pl, k, rl, fp)) sz)) 0 0 (va_A (xw h0 h1 h2 h3 cA (tx, n, ch, pl, k, rl, fp)) sz) := by
  refine Met.ofW (cc := cX0_append) (maxL := 2) (ret := none) (by decide) rfl ?_
  intro p e s m args below meth c s₁ B hml hv
  obtain ⟨rfl, hsz, hP, hK, hD0, hT⟩ := hv
  have hx := B.exec
  have hb := B.bytes
  have hr := B.returns
  have hts := atoms_spec (ws := wsX0_append) B.pre
  have hown : s.vm.findClass RX0 = some m.cls := findClass_of_methodNamed B.named
  subst hsz
  have hD := hD0.self (sz := s.heap.size)
  generalize hAe : va_A (xw h0 h1 h2 h3 cA (tx, n, ch, pl, k, rl, fp)) s.heap.size = A at hD hT ⊢
  have hA : ∀ q : Nat, s.heap.size ≤ q → A q := fun q h => by rw [← hAe]; exact Or.inr h
  have hS : va_S A s.heap s.heap [] := va_S.rf
  have hP : va_P (dC, dI) vwCl [(h0, .inr (0, [.ref h1, .int (nI n), .ref h2, .ref h3, .int (nI k), .int rl, .int fp])), (h1, .inl (cA, 1000, .inl tx)), (h2, .inl (cA, 1000, .inl ch)), (h3, .inl (cA, 1000, .inl pl))] s.heap := hP
  have hD : va_D A [(h0, .inr (0, [.ref h1, .int (nI n), .ref h2, .ref h3, .int (nI k), .int rl, .int fp])), (h1, .inl (cA, 1000, .inl tx)), (h2, .inl (cA, 1000, .inl ch)), (h3, .inl (cA, 1000, .inl pl))] := hD
  have hIn : ∀ w ∈ wsX00, w ∈ wsX0_append := by decide +kernel
  obtain ⟨hz0, ht0, hz1, ht1, hz2, ht2, hz3, ht3⟩ := id hT
  have hl := lv_entry ([.ref h0, .int v]) (n := 2) (Nat.le_of_ble_eq_true rfl)
  rw [lg_entry_eq]
  generalize (lg_sl ([.ref h0, .int v]) ++ List.replicate (2 - (lg_sl ([.ref h0, .int v])).length) Slot.unset).toArray = ls at hl ⊢
  have hl : lv_has ls 2 [(0, .ref h0), (1, .int v)] := hl
  refine lv_aload_n hx hb dX0_append_0 rfl (lv_at hl 0 rfl) ?_
  refine va_get (D := (dC, dI)) (ci := 0) (v := .int (nI n)) (C := RX0) (T := TX0) (N := 7) hx hb hts hIn hown hK hP 0 rfl rfl 1 (by decide) (hts (.fieldLink RX0 19 RX0 "textLength" "I") (by decide +kernel)) (fun _ h9 => h9) rfl dX0_append_1 ?_
  refine lv_sipush (v := 1000) hx hb dX0_append_4 (by decide) ?_
  refine lv_icmp_ge (tgt := 30) hx hb dX0_append_7 (by decide) (fun c_1 => ?_) (fun c_1 => ?_)
  · exact absurd (show nI 1000 ≤ nI n from c_1) (nI_ge (by omega) (by omega))
  · refine lv_aload_n hx hb dX0_append_10 rfl (lv_at hl 0 rfl) ?_
    refine va_get (D := (dC, dI)) (ci := 0) (v := .ref h1) (C := RX0) (T := TX0) (N := 7) hx hb hts hIn hown hK hP 0 rfl rfl 0 (by decide) (hts (.fieldLink RX0 9 RX0 "text" "[I") (by decide +kernel)) (fun _ h9 => h9) rfl dX0_append_11 ?_
    refine lv_aload_n hx hb dX0_append_14 rfl (lv_at hl 0 rfl) ?_
    refine va_get (D := (dC, dI)) (ci := 0) (v := .int (nI n)) (C := RX0) (T := TX0) (N := 7) hx hb hts hIn hown hK hP 0 rfl rfl 1 (by decide) (hts (.fieldLink RX0 19 RX0 "textLength" "I") (by decide +kernel)) (fun _ h9 => h9) rfl dX0_append_15 ?_
    refine lv_iload_n hx hb dX0_append_18 rfl (lv_at hl 1 rfl) ?_
    refine va_iast hx hb hK hP hD hS 1 0 rfl rfl (vp_in_nI (by omega) (by omega)) dX0_append_19 (fun H locs hP hD hS => ?_)
    rw [nI_clamp (by omega)] at hP hD
    have hP : va_P (dC, dI) vwCl [(h0, .inr (0, [.ref h1, .int (nI n), .ref h2, .ref h3, .int (nI k), .int rl, .int fp])), (h1, .inl (cA, 1000, .inl (upd tx n v))), (h2, .inl (cA, 1000, .inl ch)), (h3, .inl (cA, 1000, .inl pl))] H := hP
    have hD : va_D A [(h0, .inr (0, [.ref h1, .int (nI n), .ref h2, .ref h3, .int (nI k), .int rl, .int fp])), (h1, .inl (cA, 1000, .inl (upd tx n v))), (h2, .inl (cA, 1000, .inl ch)), (h3, .inl (cA, 1000, .inl pl))] := hD
    refine lv_aload_n hx hb dX0_append_20 rfl (lv_at hl 0 rfl) ?_
    refine lv_dup hx hb dX0_append_21 rfl ?_
    refine va_get (D := (dC, dI)) (ci := 0) (v := .int (nI n)) (C := RX0) (T := TX0) (N := 7) hx hb hts hIn hown hK hP 0 rfl rfl 1 (by decide) (hts (.fieldLink RX0 19 RX0 "textLength" "I") (by decide +kernel)) (fun _ h9 => h9) rfl dX0_append_22 ?_
    refine lv_iconst (v := 1) hx hb dX0_append_25 (by decide) ?_
    refine lv_iadd hx hb dX0_append_26 ?_
    refine lv_topi (fun x_2 ex_2 => ?_)
    obtain rfl : x_2 = nI (n + 1) := ex_2.trans (nI_1 _)
    refine va_put (D := (dC, dI)) (ci := 0) (v := .int (nI (n + 1))) (ty := .int) (C := RX0) (T := TX0) (N := 7) hx hb hts hIn tyX0 tyX0_ok nmX0 hown hK hP hD hS 0 rfl rfl 1 (by decide) (hts (.fieldLink RX0 19 RX0 "textLength" "I") (by decide +kernel)) (fun _ h9 => h9) rfl (by decide +kernel) rfl rfl (Nat.le_of_ble_eq_true rfl) dX0_append_27 (fun H locs hP hD hS => ?_)
    have hP : va_P (dC, dI) vwCl [(h0, .inr (0, [.ref h1, .int (nI (n + 1)), .ref h2, .ref h3, .int (nI k), .int rl, .int fp])), (h1, .inl (cA, 1000, .inl (upd tx n v))), (h2, .inl (cA, 1000, .inl ch)), (h3, .inl (cA, 1000, .inl pl))] H := hP
    have hD : va_D A [(h0, .inr (0, [.ref h1, .int (nI (n + 1)), .ref h2, .ref h3, .int (nI k), .int rl, .int fp])), (h1, .inl (cA, 1000, .inl (upd tx n v))), (h2, .inl (cA, 1000, .inl ch)), (h3, .inl (cA, 1000, .inl pl))] := hD
    have hP9 : va_P (dC, dI) vwCl (xw h0 h1 h2 h3 cA ((upd tx n v), (n + 1), ch, pl, k, rl, fp)) H := hP
    have hD9 : va_D A (xw h0 h1 h2 h3 cA ((upd tx n v), (n + 1), ch, pl, k, rl, fp)) := hD
    exact W.vret hx hb hr (fun t ht hW => ⟨⟨((upd tx n v), (n + 1), ch, pl, k, rl, fp), rfl, rfl, by rw [ht]; exact hP9, va_K.moved hW.alike hK, hD9⟩, hS.F ht⟩) hS.2.2 dX0_append_30
set_option maxHeartbeats 4000000 in
set_option maxRecDepth 100000 in
theorem c_X0_forgetReading (l : Launch) (dC : Nat → ClassId) (dI : Nat → Nat → Nat) (h0 h1 h2 h3 : Nat) (cA : ClassId) (t0 t1 t2 t3 : Nat) (sz : Nat) (tx : Nat → Int32) (n : Nat) (ch pl : Nat → Int32) (k : Nat) (rl : Int32) (fp : Int32)  : Met l yX0_forgetReading wsX0_forgetReading ({ frames := 0, cells := 0, slots := 0, locals := 0 }) (va_Pc [.ref h0] (fun U => xmut dC dI h0 h1 h2 h3 cA t0 t1 t2 t3 sz (tx, n, ch, pl, k, rl, fp) U)) (va_Qv (fun u : XS => u = (tx, n, ch, pl, 0, -1, -1)) (xatt dC dI h0 h1 h2 h3 cA (va_A (xw h0 h1 h2 h3 cA (tx, n, ch, pl, k, rl, fp)) sz)) (va_A (xw h0 h1 h2 h3 cA (tx, n, ch, pl, k, rl, fp)) sz)) 0 0 (va_A (xw h0 h1 h2 h3 cA (tx, n, ch, pl, k, rl, fp)) sz) := by
  refine Met.ofW (cc := cX0_forgetReading) (maxL := 1) (ret := none) (by decide) rfl ?_
  intro p e s m args below meth c s₁ B hml hv
  obtain ⟨rfl, hsz, hP, hK, hD0, hT⟩ := hv
  have hx := B.exec
  have hb := B.bytes
  have hr := B.returns
  have hts := atoms_spec (ws := wsX0_forgetReading) B.pre
  have hown : s.vm.findClass RX0 = some m.cls := findClass_of_methodNamed B.named
  subst hsz
  have hD := hD0.self (sz := s.heap.size)
  generalize hAe : va_A (xw h0 h1 h2 h3 cA (tx, n, ch, pl, k, rl, fp)) s.heap.size = A at hD hT ⊢
  have hA : ∀ q : Nat, s.heap.size ≤ q → A q := fun q h => by rw [← hAe]; exact Or.inr h
  have hS : va_S A s.heap s.heap [] := va_S.rf
  have hP : va_P (dC, dI) vwCl [(h0, .inr (0, [.ref h1, .int (nI n), .ref h2, .ref h3, .int (nI k), .int rl, .int fp])), (h1, .inl (cA, 1000, .inl tx)), (h2, .inl (cA, 1000, .inl ch)), (h3, .inl (cA, 1000, .inl pl))] s.heap := hP
  have hD : va_D A [(h0, .inr (0, [.ref h1, .int (nI n), .ref h2, .ref h3, .int (nI k), .int rl, .int fp])), (h1, .inl (cA, 1000, .inl tx)), (h2, .inl (cA, 1000, .inl ch)), (h3, .inl (cA, 1000, .inl pl))] := hD
  have hIn : ∀ w ∈ wsX00, w ∈ wsX0_forgetReading := by decide +kernel
  obtain ⟨hz0, ht0, hz1, ht1, hz2, ht2, hz3, ht3⟩ := id hT
  have hl := lv_entry ([.ref h0]) (n := 1) (Nat.le_of_ble_eq_true rfl)
  rw [lg_entry_eq]
  generalize (lg_sl ([.ref h0]) ++ List.replicate (1 - (lg_sl ([.ref h0])).length) Slot.unset).toArray = ls at hl ⊢
  have hl : lv_has ls 1 [(0, .ref h0)] := hl
  refine lv_aload_n hx hb dX0_forgetReading_0 rfl (lv_at hl 0 rfl) ?_
  refine lv_iconst (v := 0) hx hb dX0_forgetReading_1 (by decide) ?_
  refine va_put (D := (dC, dI)) (ci := 0) (v := .int 0) (ty := .int) (C := RX0) (T := TX0) (N := 7) hx hb hts hIn tyX0 tyX0_ok nmX0 hown hK hP hD hS 0 rfl rfl 4 (by decide) (hts (.fieldLink RX0 23 RX0 "count" "I") (by decide +kernel)) (fun _ h9 => h9) rfl (by decide +kernel) rfl rfl (Nat.le_of_ble_eq_true rfl) dX0_forgetReading_2 (fun H locs hP hD hS => ?_)
  have hP : va_P (dC, dI) vwCl [(h0, .inr (0, [.ref h1, .int (nI n), .ref h2, .ref h3, .int 0, .int rl, .int fp])), (h1, .inl (cA, 1000, .inl tx)), (h2, .inl (cA, 1000, .inl ch)), (h3, .inl (cA, 1000, .inl pl))] H := hP
  have hD : va_D A [(h0, .inr (0, [.ref h1, .int (nI n), .ref h2, .ref h3, .int 0, .int rl, .int fp])), (h1, .inl (cA, 1000, .inl tx)), (h2, .inl (cA, 1000, .inl ch)), (h3, .inl (cA, 1000, .inl pl))] := hD
  refine lv_aload_n hx hb dX0_forgetReading_5 rfl (lv_at hl 0 rfl) ?_
  refine lv_iconst (v := -1) hx hb dX0_forgetReading_6 (by decide) ?_
  refine va_put (D := (dC, dI)) (ci := 0) (v := .int (-1)) (ty := .int) (C := RX0) (T := TX0) (N := 7) hx hb hts hIn tyX0 tyX0_ok nmX0 hown hK hP hD hS 0 rfl rfl 5 (by decide) (hts (.fieldLink RX0 26 RX0 "readLength" "I") (by decide +kernel)) (fun _ h9 => h9) rfl (by decide +kernel) rfl rfl (Nat.le_of_ble_eq_true rfl) dX0_forgetReading_7 (fun H locs hP hD hS => ?_)
  have hP : va_P (dC, dI) vwCl [(h0, .inr (0, [.ref h1, .int (nI n), .ref h2, .ref h3, .int 0, .int (-1), .int fp])), (h1, .inl (cA, 1000, .inl tx)), (h2, .inl (cA, 1000, .inl ch)), (h3, .inl (cA, 1000, .inl pl))] H := hP
  have hD : va_D A [(h0, .inr (0, [.ref h1, .int (nI n), .ref h2, .ref h3, .int 0, .int (-1), .int fp])), (h1, .inl (cA, 1000, .inl tx)), (h2, .inl (cA, 1000, .inl ch)), (h3, .inl (cA, 1000, .inl pl))] := hD
  refine lv_aload_n hx hb dX0_forgetReading_10 rfl (lv_at hl 0 rfl) ?_
  refine lv_iconst (v := -1) hx hb dX0_forgetReading_11 (by decide) ?_
  refine va_put (D := (dC, dI)) (ci := 0) (v := .int (-1)) (ty := .int) (C := RX0) (T := TX0) (N := 7) hx hb hts hIn tyX0 tyX0_ok nmX0 hown hK hP hD hS 0 rfl rfl 6 (by decide) (hts (.fieldLink RX0 29 RX0 "faultPlace" "I") (by decide +kernel)) (fun _ h9 => h9) rfl (by decide +kernel) rfl rfl (Nat.le_of_ble_eq_true rfl) dX0_forgetReading_12 (fun H locs hP hD hS => ?_)
  have hP : va_P (dC, dI) vwCl [(h0, .inr (0, [.ref h1, .int (nI n), .ref h2, .ref h3, .int 0, .int (-1), .int (-1)])), (h1, .inl (cA, 1000, .inl tx)), (h2, .inl (cA, 1000, .inl ch)), (h3, .inl (cA, 1000, .inl pl))] H := hP
  have hD : va_D A [(h0, .inr (0, [.ref h1, .int (nI n), .ref h2, .ref h3, .int 0, .int (-1), .int (-1)])), (h1, .inl (cA, 1000, .inl tx)), (h2, .inl (cA, 1000, .inl ch)), (h3, .inl (cA, 1000, .inl pl))] := hD
  have hP9 : va_P (dC, dI) vwCl (xw h0 h1 h2 h3 cA (tx, n, ch, pl, 0, (-1), (-1))) H := hP
  have hD9 : va_D A (xw h0 h1 h2 h3 cA (tx, n, ch, pl, 0, (-1), (-1))) := hD
  exact W.vret hx hb hr (fun t ht hW => ⟨⟨(tx, n, ch, pl, 0, (-1), (-1)), rfl, rfl, by rw [ht]; exact hP9, va_K.moved hW.alike hK, hD9⟩, hS.F ht⟩) hS.2.2 dX0_forgetReading_15
set_option maxHeartbeats 4000000 in
set_option maxRecDepth 100000 in
theorem c_X0_keep (l : Launch) (dC : Nat → ClassId) (dI : Nat → Nat → Nat) (h0 h1 h2 h3 : Nat) (cA : ClassId) (t0 t1 t2 t3 : Nat) (sz : Nat) (tx : Nat → Int32) (n : Nat) (ch pl : Nat → Int32) (k : Nat) (rl : Int32) (fp : Int32) (v : Int32) (fr : Nat) (hk : k < 1000) : Met l yX0_keep wsX0_keep ({ frames := 0, cells := 0, slots := 0, locals := 0 }) (va_Pc [.ref h0, .int v, .int (nI fr)] (fun U => xmut dC dI h0 h1 h2 h3 cA t0 t1 t2 t3 sz (tx, n, ch, pl, k, rl, fp) U)) (va_Qv (fun u : XS => u = (tx, n, upd ch k v, upd pl k (nI fr), k + 1, rl, fp)) (xatt dC dI h0 h1 h2 h3 cA (va_A (xw h0 h1 h2 h3 cA (tx, n, ch, pl, k, rl, fp)) sz)) (va_A (xw h0 h1 h2 h3 cA (tx, n, ch, pl, k, rl, fp)) sz)) 0 0 (va_A (xw h0 h1 h2 h3 cA (tx, n, ch, pl, k, rl, fp)) sz) := by
  refine Met.ofW (cc := cX0_keep) (maxL := 3) (ret := none) (by decide) rfl ?_
  intro p e s m args below meth c s₁ B hml hv
  obtain ⟨rfl, hsz, hP, hK, hD0, hT⟩ := hv
  have hx := B.exec
  have hb := B.bytes
  have hr := B.returns
  have hts := atoms_spec (ws := wsX0_keep) B.pre
  have hown : s.vm.findClass RX0 = some m.cls := findClass_of_methodNamed B.named
  subst hsz
  have hD := hD0.self (sz := s.heap.size)
  generalize hAe : va_A (xw h0 h1 h2 h3 cA (tx, n, ch, pl, k, rl, fp)) s.heap.size = A at hD hT ⊢
  have hA : ∀ q : Nat, s.heap.size ≤ q → A q := fun q h => by rw [← hAe]; exact Or.inr h
  have hS : va_S A s.heap s.heap [] := va_S.rf
  have hP : va_P (dC, dI) vwCl [(h0, .inr (0, [.ref h1, .int (nI n), .ref h2, .ref h3, .int (nI k), .int rl, .int fp])), (h1, .inl (cA, 1000, .inl tx)), (h2, .inl (cA, 1000, .inl ch)), (h3, .inl (cA, 1000, .inl pl))] s.heap := hP
  have hD : va_D A [(h0, .inr (0, [.ref h1, .int (nI n), .ref h2, .ref h3, .int (nI k), .int rl, .int fp])), (h1, .inl (cA, 1000, .inl tx)), (h2, .inl (cA, 1000, .inl ch)), (h3, .inl (cA, 1000, .inl pl))] := hD
  have hIn : ∀ w ∈ wsX00, w ∈ wsX0_keep := by decide +kernel
  obtain ⟨hz0, ht0, hz1, ht1, hz2, ht2, hz3, ht3⟩ := id hT
  have hl := lv_entry ([.ref h0, .int v, .int (nI fr)]) (n := 3) (Nat.le_of_ble_eq_true rfl)
  rw [lg_entry_eq]
  generalize (lg_sl ([.ref h0, .int v, .int (nI fr)]) ++ List.replicate (3 - (lg_sl ([.ref h0, .int v, .int (nI fr)])).length) Slot.unset).toArray = ls at hl ⊢
  have hl : lv_has ls 3 [(0, .ref h0), (1, .int v), (2, .int (nI fr))] := hl
  refine lv_aload_n hx hb dX0_keep_0 rfl (lv_at hl 0 rfl) ?_
  refine va_get (D := (dC, dI)) (ci := 0) (v := .int (nI k)) (C := RX0) (T := TX0) (N := 7) hx hb hts hIn hown hK hP 0 rfl rfl 4 (by decide) (hts (.fieldLink RX0 23 RX0 "count" "I") (by decide +kernel)) (fun _ h9 => h9) rfl dX0_keep_1 ?_
  refine lv_sipush (v := 1000) hx hb dX0_keep_4 (by decide) ?_
  refine lv_icmp_ge (tgt := 40) hx hb dX0_keep_7 (by decide) (fun c_1 => ?_) (fun c_1 => ?_)
  · exact absurd (show nI 1000 ≤ nI k from c_1) (nI_ge (by omega) (by omega))
  · refine lv_aload_n hx hb dX0_keep_10 rfl (lv_at hl 0 rfl) ?_
    refine va_get (D := (dC, dI)) (ci := 0) (v := .ref h2) (C := RX0) (T := TX0) (N := 7) hx hb hts hIn hown hK hP 0 rfl rfl 2 (by decide) (hts (.fieldLink RX0 13 RX0 "characters" "[I") (by decide +kernel)) (fun _ h9 => h9) rfl dX0_keep_11 ?_
    refine lv_aload_n hx hb dX0_keep_14 rfl (lv_at hl 0 rfl) ?_
    refine va_get (D := (dC, dI)) (ci := 0) (v := .int (nI k)) (C := RX0) (T := TX0) (N := 7) hx hb hts hIn hown hK hP 0 rfl rfl 4 (by decide) (hts (.fieldLink RX0 23 RX0 "count" "I") (by decide +kernel)) (fun _ h9 => h9) rfl dX0_keep_15 ?_
    refine lv_iload_n hx hb dX0_keep_18 rfl (lv_at hl 1 rfl) ?_
    refine va_iast hx hb hK hP hD hS 2 0 rfl rfl (vp_in_nI (by omega) (by omega)) dX0_keep_19 (fun H locs hP hD hS => ?_)
    rw [nI_clamp (by omega)] at hP hD
    have hP : va_P (dC, dI) vwCl [(h0, .inr (0, [.ref h1, .int (nI n), .ref h2, .ref h3, .int (nI k), .int rl, .int fp])), (h1, .inl (cA, 1000, .inl tx)), (h2, .inl (cA, 1000, .inl (upd ch k v))), (h3, .inl (cA, 1000, .inl pl))] H := hP
    have hD : va_D A [(h0, .inr (0, [.ref h1, .int (nI n), .ref h2, .ref h3, .int (nI k), .int rl, .int fp])), (h1, .inl (cA, 1000, .inl tx)), (h2, .inl (cA, 1000, .inl (upd ch k v))), (h3, .inl (cA, 1000, .inl pl))] := hD
    refine lv_aload_n hx hb dX0_keep_20 rfl (lv_at hl 0 rfl) ?_
    refine va_get (D := (dC, dI)) (ci := 0) (v := .ref h3) (C := RX0) (T := TX0) (N := 7) hx hb hts hIn hown hK hP 0 rfl rfl 3 (by decide) (hts (.fieldLink RX0 16 RX0 "places" "[I") (by decide +kernel)) (fun _ h9 => h9) rfl dX0_keep_21 ?_
    refine lv_aload_n hx hb dX0_keep_24 rfl (lv_at hl 0 rfl) ?_
    refine va_get (D := (dC, dI)) (ci := 0) (v := .int (nI k)) (C := RX0) (T := TX0) (N := 7) hx hb hts hIn hown hK hP 0 rfl rfl 4 (by decide) (hts (.fieldLink RX0 23 RX0 "count" "I") (by decide +kernel)) (fun _ h9 => h9) rfl dX0_keep_25 ?_
    refine lv_iload_n hx hb dX0_keep_28 rfl (lv_at hl 2 rfl) ?_
    refine va_iast hx hb hK hP hD hS 3 0 rfl rfl (vp_in_nI (by omega) (by omega)) dX0_keep_29 (fun H locs hP hD hS => ?_)
    rw [nI_clamp (by omega)] at hP hD
    have hP : va_P (dC, dI) vwCl [(h0, .inr (0, [.ref h1, .int (nI n), .ref h2, .ref h3, .int (nI k), .int rl, .int fp])), (h1, .inl (cA, 1000, .inl tx)), (h2, .inl (cA, 1000, .inl (upd ch k v))), (h3, .inl (cA, 1000, .inl (upd pl k (nI fr))))] H := hP
    have hD : va_D A [(h0, .inr (0, [.ref h1, .int (nI n), .ref h2, .ref h3, .int (nI k), .int rl, .int fp])), (h1, .inl (cA, 1000, .inl tx)), (h2, .inl (cA, 1000, .inl (upd ch k v))), (h3, .inl (cA, 1000, .inl (upd pl k (nI fr))))] := hD
    refine lv_aload_n hx hb dX0_keep_30 rfl (lv_at hl 0 rfl) ?_
    refine lv_dup hx hb dX0_keep_31 rfl ?_
    refine va_get (D := (dC, dI)) (ci := 0) (v := .int (nI k)) (C := RX0) (T := TX0) (N := 7) hx hb hts hIn hown hK hP 0 rfl rfl 4 (by decide) (hts (.fieldLink RX0 23 RX0 "count" "I") (by decide +kernel)) (fun _ h9 => h9) rfl dX0_keep_32 ?_
    refine lv_iconst (v := 1) hx hb dX0_keep_35 (by decide) ?_
    refine lv_iadd hx hb dX0_keep_36 ?_
    refine lv_topi (fun x_2 ex_2 => ?_)
    obtain rfl : x_2 = nI (k + 1) := ex_2.trans (nI_1 _)
    refine va_put (D := (dC, dI)) (ci := 0) (v := .int (nI (k + 1))) (ty := .int) (C := RX0) (T := TX0) (N := 7) hx hb hts hIn tyX0 tyX0_ok nmX0 hown hK hP hD hS 0 rfl rfl 4 (by decide) (hts (.fieldLink RX0 23 RX0 "count" "I") (by decide +kernel)) (fun _ h9 => h9) rfl (by decide +kernel) rfl rfl (Nat.le_of_ble_eq_true rfl) dX0_keep_37 (fun H locs hP hD hS => ?_)
    have hP : va_P (dC, dI) vwCl [(h0, .inr (0, [.ref h1, .int (nI n), .ref h2, .ref h3, .int (nI (k + 1)), .int rl, .int fp])), (h1, .inl (cA, 1000, .inl tx)), (h2, .inl (cA, 1000, .inl (upd ch k v))), (h3, .inl (cA, 1000, .inl (upd pl k (nI fr))))] H := hP
    have hD : va_D A [(h0, .inr (0, [.ref h1, .int (nI n), .ref h2, .ref h3, .int (nI (k + 1)), .int rl, .int fp])), (h1, .inl (cA, 1000, .inl tx)), (h2, .inl (cA, 1000, .inl (upd ch k v))), (h3, .inl (cA, 1000, .inl (upd pl k (nI fr))))] := hD
    have hP9 : va_P (dC, dI) vwCl (xw h0 h1 h2 h3 cA (tx, n, (upd ch k v), (upd pl k (nI fr)), (k + 1), rl, fp)) H := hP
    have hD9 : va_D A (xw h0 h1 h2 h3 cA (tx, n, (upd ch k v), (upd pl k (nI fr)), (k + 1), rl, fp)) := hD
    exact W.vret hx hb hr (fun t ht hW => ⟨⟨(tx, n, (upd ch k v), (upd pl k (nI fr)), (k + 1), rl, fp), rfl, rfl, by rw [ht]; exact hP9, va_K.moved hW.alike hK, hD9⟩, hS.F ht⟩) hS.2.2 dX0_keep_40
set_option maxHeartbeats 4000000 in
set_option maxRecDepth 100000 in
theorem c_X0_put_no (l : Launch) (dC : Nat → ClassId) (dI : Nat → Nat → Nat) (h0 h1 h2 h3 : Nat) (cA : ClassId) (t0 t1 t2 t3 : Nat) (sz : Nat) (tx : Nat → Int32) (n : Nat) (ch pl : Nat → Int32) (k : Nat) (rl : Int32) (fp : Int32) (v : Int64) (q : Int32) (hno : xPutOk n q = false) : Met l yX0_put wsX0_put ({ frames := 1, cells := 0, slots := 0, locals := 21 }) (va_Pc [.ref h0, .long v, .int q] (fun U => xmut dC dI h0 h1 h2 h3 cA t0 t1 t2 t3 sz (tx, n, ch, pl, k, rl, fp) U)) (va_Qi (fun (r : Int32) (u : XS) => r = 0 ∧ u = (tx, n, ch, pl, k, rl, fp)) (xatt dC dI h0 h1 h2 h3 cA (va_A (xw h0 h1 h2 h3 cA (tx, n, ch, pl, k, rl, fp)) sz)) (va_A (xw h0 h1 h2 h3 cA (tx, n, ch, pl, k, rl, fp)) sz)) 0 0 (va_A (xw h0 h1 h2 h3 cA (tx, n, ch, pl, k, rl, fp)) sz) := by
  refine Met.ofW (cc := cX0_put) (maxL := 5) (ret := (some .boolean)) (by decide) rfl ?_
  intro p e s m args below meth c s₁ B hml hv
  obtain ⟨rfl, hsz, hP, hK, hD0, hT⟩ := hv
  have hx := B.exec
  have hb := B.bytes
  have hr := B.returns
  have hts := atoms_spec (ws := wsX0_put) B.pre
  have hown : s.vm.findClass RX0 = some m.cls := findClass_of_methodNamed B.named
  subst hsz
  have hD := hD0.self (sz := s.heap.size)
  generalize hAe : va_A (xw h0 h1 h2 h3 cA (tx, n, ch, pl, k, rl, fp)) s.heap.size = A at hD hT ⊢
  have hA : ∀ q : Nat, s.heap.size ≤ q → A q := fun q h => by rw [← hAe]; exact Or.inr h
  have hS : va_S A s.heap s.heap [] := va_S.rf
  have hP : va_P (dC, dI) vwCl [(h0, .inr (0, [.ref h1, .int (nI n), .ref h2, .ref h3, .int (nI k), .int rl, .int fp])), (h1, .inl (cA, 1000, .inl tx)), (h2, .inl (cA, 1000, .inl ch)), (h3, .inl (cA, 1000, .inl pl))] s.heap := hP
  have hD : va_D A [(h0, .inr (0, [.ref h1, .int (nI n), .ref h2, .ref h3, .int (nI k), .int rl, .int fp])), (h1, .inl (cA, 1000, .inl tx)), (h2, .inl (cA, 1000, .inl ch)), (h3, .inl (cA, 1000, .inl pl))] := hD
  have hIn : ∀ w ∈ wsX00, w ∈ wsX0_put := by decide +kernel
  obtain ⟨hz0, ht0, hz1, ht1, hz2, ht2, hz3, ht3⟩ := id hT
  have hl := lv_entry ([.ref h0, .long v, .int q]) (n := 5) (Nat.le_of_ble_eq_true rfl)
  rw [lg_entry_eq]
  generalize (lg_sl ([.ref h0, .long v, .int q]) ++ List.replicate (5 - (lg_sl ([.ref h0, .long v, .int q])).length) Slot.unset).toArray = ls at hl ⊢
  have hl : lv_has ls 5 [(0, .ref h0), (1, .long v), (3, .int q)] := hl
  refine lv_iload_n hx hb dX0_put_0 rfl (lv_at hl 2 rfl) ?_
  refine lv_iconst (v := 1) hx hb dX0_put_1 (by decide) ?_
  refine lv_icmp_lt (tgt := 19) hx hb dX0_put_2 (by decide) (fun c_1 => ?_) (fun c_1 => ?_)
  · refine lv_iconst (v := 0) hx hb dX0_put_19 (by decide) ?_
    have hP9 : va_P (dC, dI) vwCl (xw h0 h1 h2 h3 cA (tx, n, ch, pl, k, rl, fp)) s.heap := hP
    have hD9 : va_D A (xw h0 h1 h2 h3 cA (tx, n, ch, pl, k, rl, fp)) := hD
    exact W.zret (v := 0) (ty := .boolean) hx hb hr (rfl) (fun t ht hW => ⟨⟨0, (tx, n, ch, pl, k, rl, fp), rfl, ⟨rfl, rfl⟩, by rw [ht]; exact hP9, va_K.moved hW.alike hK, hD9⟩, hS.F ht⟩) hS.2.2 dX0_put_20
  · refine lv_iload_n hx hb dX0_put_5 rfl (lv_at hl 2 rfl) ?_
    refine lv_bipush (v := 8) hx hb dX0_put_6 (by decide) ?_
    refine lv_icmp_gt (tgt := 19) hx hb dX0_put_8 (by decide) (fun c_2 => ?_) (fun c_2 => ?_)
    · refine lv_iconst (v := 0) hx hb dX0_put_19 (by decide) ?_
      have hP9 : va_P (dC, dI) vwCl (xw h0 h1 h2 h3 cA (tx, n, ch, pl, k, rl, fp)) s.heap := hP
      have hD9 : va_D A (xw h0 h1 h2 h3 cA (tx, n, ch, pl, k, rl, fp)) := hD
      exact W.zret (v := 0) (ty := .boolean) hx hb hr (rfl) (fun t ht hW => ⟨⟨0, (tx, n, ch, pl, k, rl, fp), rfl, ⟨rfl, rfl⟩, by rw [ht]; exact hP9, va_K.moved hW.alike hK, hD9⟩, hS.F ht⟩) hS.2.2 dX0_put_20
    · refine lv_aload_n hx hb dX0_put_11 rfl (lv_at hl 0 rfl) ?_
      refine lv_iload_n hx hb dX0_put_12 rfl (lv_at hl 2 rfl) ?_
      refine vp_callSi (W.runV (As := [.int q]) (rest := []) ⟨hx, hb, hml, hown, hts⟩ (c_X0_hasRoomFor l dC dI h0 h1 h2 h3 cA t0 t1 t2 t3 tx n ch pl k rl fp q) (cwV 1 hts gX0_put_X0_hasRoomFor rfl rfl rfl (by decide +kernel) ⟨Nat.le_of_ble_eq_true rfl, Nat.le_of_ble_eq_true rfl⟩) ⟨xpre_blind, va_recv hK hP (ci := 0) (q0 := 0) rfl rfl, fun U hU hW => ⟨rfl, xpre_of hP hK hT hS hU hW⟩⟩ rfl rfl hl.1 rfl (lv_room (Nat.le_of_ble_eq_true rfl)) dX0_put_13 ⟨Nat.le_of_ble_eq_true rfl, Nat.le_of_ble_eq_true rfl⟩) (fun r_3 er_3 => ?_)
      obtain rfl : r_3 = bI (xRoom n q) := er_3
      refine lv_if_ne (tgt := 21) hx hb dX0_put_16 (by decide) (fun c_4 => ?_) (fun c_4 => ?_)
      · exact absurd hno (by rw [xPutOk, if_neg c_1, if_neg c_2, bI_n0 c_4]; decide)
      · have c_4 := bI_0 c_4
        refine lv_iconst (v := 0) hx hb dX0_put_19 (by decide) ?_
        have hP9 : va_P (dC, dI) vwCl (xw h0 h1 h2 h3 cA (tx, n, ch, pl, k, rl, fp)) s.heap := hP
        have hD9 : va_D A (xw h0 h1 h2 h3 cA (tx, n, ch, pl, k, rl, fp)) := hD
        exact W.zret (v := 0) (ty := .boolean) hx hb hr (rfl) (fun t ht hW => ⟨⟨0, (tx, n, ch, pl, k, rl, fp), rfl, ⟨rfl, rfl⟩, by rw [ht]; exact hP9, va_K.moved hW.alike hK, hD9⟩, hS.F ht⟩) hS.2.2 dX0_put_20
set_option maxHeartbeats 4000000 in
set_option maxRecDepth 100000 in
theorem c_X0_put_ok (l : Launch) (dC : Nat → ClassId) (dI : Nat → Nat → Nat) (h0 h1 h2 h3 : Nat) (cA : ClassId) (t0 t1 t2 t3 : Nat) (sz : Nat) (tx : Nat → Int32) (n : Nat) (ch pl : Nat → Int32) (k : Nat) (rl : Int32) (fp : Int32) (v : Int64) (q : Nat) (h1q : 1 ≤ q) (hq8 : q ≤ 8) (hroom : n + q ≤ 1000) : Met l yX0_put wsX0_put ({ frames := 1, cells := 0, slots := 0, locals := 21 }) (va_Pc [.ref h0, .long v, .int (nI q)] (fun U => xmut dC dI h0 h1 h2 h3 cA t0 t1 t2 t3 sz (tx, n, ch, pl, k, rl, fp) U)) (va_Qi (fun (r : Int32) (u : XS) => r = 1 ∧ u = (putTx tx n (fun z => xPb v (q - 1 - z)) q, n + q, ch, pl, k, rl, fp)) (xatt dC dI h0 h1 h2 h3 cA (va_A (xw h0 h1 h2 h3 cA (tx, n, ch, pl, k, rl, fp)) sz)) (va_A (xw h0 h1 h2 h3 cA (tx, n, ch, pl, k, rl, fp)) sz)) 0 0 (va_A (xw h0 h1 h2 h3 cA (tx, n, ch, pl, k, rl, fp)) sz) := by
  refine Met.ofW (cc := cX0_put) (maxL := 5) (ret := (some .boolean)) (by decide) rfl ?_
  intro p e s m args below meth c s₁ B hml hv
  obtain ⟨rfl, hsz, hP, hK, hD0, hT⟩ := hv
  have hx := B.exec
  have hb := B.bytes
  have hr := B.returns
  have hts := atoms_spec (ws := wsX0_put) B.pre
  have hown : s.vm.findClass RX0 = some m.cls := findClass_of_methodNamed B.named
  subst hsz
  have hD := hD0.self (sz := s.heap.size)
  generalize hAe : va_A (xw h0 h1 h2 h3 cA (tx, n, ch, pl, k, rl, fp)) s.heap.size = A at hD hT ⊢
  have hA : ∀ q : Nat, s.heap.size ≤ q → A q := fun q h => by rw [← hAe]; exact Or.inr h
  have hS : va_S A s.heap s.heap [] := va_S.rf
  have hP : va_P (dC, dI) vwCl [(h0, .inr (0, [.ref h1, .int (nI n), .ref h2, .ref h3, .int (nI k), .int rl, .int fp])), (h1, .inl (cA, 1000, .inl tx)), (h2, .inl (cA, 1000, .inl ch)), (h3, .inl (cA, 1000, .inl pl))] s.heap := hP
  have hD : va_D A [(h0, .inr (0, [.ref h1, .int (nI n), .ref h2, .ref h3, .int (nI k), .int rl, .int fp])), (h1, .inl (cA, 1000, .inl tx)), (h2, .inl (cA, 1000, .inl ch)), (h3, .inl (cA, 1000, .inl pl))] := hD
  have hIn : ∀ w ∈ wsX00, w ∈ wsX0_put := by decide +kernel
  obtain ⟨hz0, ht0, hz1, ht1, hz2, ht2, hz3, ht3⟩ := id hT
  have hl := lv_entry ([.ref h0, .long v, .int (nI q)]) (n := 5) (Nat.le_of_ble_eq_true rfl)
  rw [lg_entry_eq]
  generalize (lg_sl ([.ref h0, .long v, .int (nI q)]) ++ List.replicate (5 - (lg_sl ([.ref h0, .long v, .int (nI q)])).length) Slot.unset).toArray = ls at hl ⊢
  have hl : lv_has ls 5 [(0, .ref h0), (1, .long v), (3, .int (nI q))] := hl
  have loop : ∀ (d i : Nat) (H : Heap) (locs : List Loc) (ls : Array Slot), i + d = q → va_P (dC, dI) vwCl [(h0, .inr (0, [.ref h1, .int (nI (n + i)), .ref h2, .ref h3, .int (nI k), .int rl, .int fp])), (h1, .inl (cA, 1000, .inl (putTx tx n (fun z => xPb v (q - 1 - z)) i))), (h2, .inl (cA, 1000, .inl ch)), (h3, .inl (cA, 1000, .inl pl))] H → va_D A [(h0, .inr (0, [.ref h1, .int (nI (n + i)), .ref h2, .ref h3, .int (nI k), .int rl, .int fp])), (h1, .inl (cA, 1000, .inl (putTx tx n (fun z => xPb v (q - 1 - z)) i))), (h2, .inl (cA, 1000, .inl ch)), (h3, .inl (cA, 1000, .inl pl))] → va_S A s.heap H locs → lv_has ls 5 [(4, .int (nI d + (-1))), (0, .ref h0), (1, .long v), (3, .int (nI q))] → W p l e (headSpec wsX0_put ({ frames := 1, cells := 0, slots := 0, locals := 21 })).room s m ([.ref h0, .long v, .int (nI q)] : List Value).toArray below meth c H locs 0 0 (MQ below (va_Qi (fun (r : Int32) (u : XS) => r = 1 ∧ u = (putTx tx n (fun z => xPb v (q - 1 - z)) q, n + q, ch, pl, k, rl, fp)) (xatt dC dI h0 h1 h2 h3 cA A) A) ([.ref h0, .long v, .int (nI q)] : List Value).toArray s 0 0 A) (F0 m 26 ls []) := by
    intro d
    induction d with
    | zero =>
      intro i H locs ls hid hP hD hS hl
      refine lv_iload hx hb dX0_put_26 (lv_at hl 0 rfl) ?_
      refine lv_if_lt (tgt := 53) hx hb dX0_put_28 (by decide) (fun c_1 => ?_) (fun c_1 => ?_)
      · refine lv_iconst (v := 1) hx hb dX0_put_53 (by decide) ?_
        have hP9 : va_P (dC, dI) vwCl (xw h0 h1 h2 h3 cA ((putTx tx n (fun z => xPb v (q - 1 - z)) i), (n + i), ch, pl, k, rl, fp)) H := hP
        have hD9 : va_D A (xw h0 h1 h2 h3 cA ((putTx tx n (fun z => xPb v (q - 1 - z)) i), (n + i), ch, pl, k, rl, fp)) := hD
        exact W.zret (v := 1) (ty := .boolean) hx hb hr (rfl) (fun t ht hW => ⟨⟨1, ((putTx tx n (fun z => xPb v (q - 1 - z)) i), (n + i), ch, pl, k, rl, fp), rfl, ⟨rfl, by rw [show i = q by omega]⟩, by rw [ht]; exact hP9, va_K.moved hW.alike hK, hD9⟩, hS.F ht⟩) hS.2.2 dX0_put_54
      · exact absurd (show nI 0 + (-1) < 0 by decide) c_1
    | succ d ih =>
      intro i H locs ls hid hP hD hS hl
      rw [pk_m1] at hl
      refine lv_iload hx hb dX0_put_26 (lv_at hl 0 rfl) ?_
      refine lv_if_lt (tgt := 53) hx hb dX0_put_28 (by decide) (fun c_2 => ?_) (fun c_2 => ?_)
      · exact absurd c_2 (nI_pos (by omega))
      · refine lv_aload_n hx hb dX0_put_31 rfl (lv_at hl 1 rfl) ?_
        refine lv_lload_n hx hb dX0_put_32 rfl (lv_at hl 2 rfl) ?_
        refine lv_bipush (v := 8) hx hb dX0_put_33 (by decide) ?_
        refine lv_iload hx hb dX0_put_35 (lv_at hl 0 rfl) ?_
        refine lv_imul hx hb dX0_put_37 ?_
        refine lv_lushr hx hb dX0_put_38 rfl ?_
        refine lv_l2i hx hb dX0_put_39 rfl ?_
        refine lv_sipush (v := 255) hx hb dX0_put_40 (by decide) ?_
        refine lv_iand hx hb dX0_put_43 ?_
        refine lv_topi (fun x_3 ex_3 => ?_)
        obtain rfl : x_3 = xPb v d := ex_3.trans rfl
        have hFc := va_free (wc := xw h0 h1 h2 h3 cA ((putTx tx n (fun z => xPb v (q - 1 - z)) i), (n + i), ch, pl, k, rl, fp)) hD hS hA [0, 1, 2, 3] rfl
        refine va_callv (va_runV (As := [.int (xPb v d)]) (rest := []) ⟨hx, hb, hml, hown, hts⟩ (c_X0_append l dC dI h0 h1 h2 h3 cA t0 t1 t2 t3 H.size (putTx tx n (fun z => xPb v (q - 1 - z)) i) (n + i) ch pl k rl fp (xPb v d) (by omega)) (cwV 1 hts gX0_put_X0_append rfl rfl rfl (by decide +kernel) ⟨Nat.le_of_ble_eq_true rfl, Nat.le_of_ble_eq_true rfl⟩) ⟨xmut_blind, va_recv hK hP (ci := 0) (q0 := 0) rfl rfl, fun U hU hW => ⟨rfl, xmut_of hP hK hD hT hS hFc hU hW⟩⟩ rfl rfl hl.1 rfl (lv_room (Nat.le_of_ble_eq_true rfl)) dX0_put_44 ⟨Nat.le_of_ble_eq_true rfl, Nat.le_of_ble_eq_true rfl⟩) hS (fun q _ h => hFc q h) hFc (fun u_4 t_4 H1 locs ht hvm hw hB hz1 hk1 hS => ?_)
        obtain rfl : u_4 = ((upd (putTx tx n (fun z => xPb v (q - 1 - z)) i) (n + i) (xPb v d)), ((n + i) + 1), ch, pl, k, rl, fp) := hw
        obtain ⟨hP1, hK1, hD1⟩ := hB
        rw [ht] at hP1
        obtain ⟨hP, hD⟩ := va_join (wr := []) (w1 := xw h0 h1 h2 h3 cA ((upd (putTx tx n (fun z => xPb v (q - 1 - z)) i) (n + i) (xPb v d)), ((n + i) + 1), ch, pl, k, rl, fp)) hP hD [0, 1, 2, 3] [] rfl rfl (by decide) (by decide) hk1 hFc hP1 hD1
        generalize H1 = H at hP hS ⊢
        have hP : va_P (dC, dI) vwCl [(h0, .inr (0, [.ref h1, .int (nI ((n + i) + 1)), .ref h2, .ref h3, .int (nI k), .int rl, .int fp])), (h1, .inl (cA, 1000, .inl (upd (putTx tx n (fun z => xPb v (q - 1 - z)) i) (n + i) (xPb v d)))), (h2, .inl (cA, 1000, .inl ch)), (h3, .inl (cA, 1000, .inl pl))] H := hP
        have hD : va_D A [(h0, .inr (0, [.ref h1, .int (nI ((n + i) + 1)), .ref h2, .ref h3, .int (nI k), .int rl, .int fp])), (h1, .inl (cA, 1000, .inl (upd (putTx tx n (fun z => xPb v (q - 1 - z)) i) (n + i) (xPb v d)))), (h2, .inl (cA, 1000, .inl ch)), (h3, .inl (cA, 1000, .inl pl))] := hD
        refine lv_iinc (v := nI d + (-1)) (lv' := [(4, .int (nI d + (-1))), (0, .ref h0), (1, .long v), (3, .int (nI q))]) hx hb dX0_put_47 hl (k := 0) rfl rfl (by decide) rfl (fun ls hl => ?_)
        refine lv_goto (tgt := 26) hx hb dX0_put_50 (by decide) ?_
        have hput : upd (putTx tx n (fun z => xPb v (q - 1 - z)) i) (n + i) (xPb v d) = putTx tx n (fun z => xPb v (q - 1 - z)) (i + 1) := by rw [putTx, show q - 1 - i = d by omega]
        rw [hput] at hP hD
        exact ih (i + 1) H locs ls (by omega) hP hD hS (lv_sub hl [0, 1, 2, 3] rfl)
  refine lv_iload_n hx hb dX0_put_0 rfl (lv_at hl 2 rfl) ?_
  refine lv_iconst (v := 1) hx hb dX0_put_1 (by decide) ?_
  refine lv_icmp_lt (tgt := 19) hx hb dX0_put_2 (by decide) (fun c_5 => ?_) (fun c_5 => ?_)
  · exact absurd (show nI q < nI 1 from c_5) (nI_nlt (by omega) (by omega))
  · refine lv_iload_n hx hb dX0_put_5 rfl (lv_at hl 2 rfl) ?_
    refine lv_bipush (v := 8) hx hb dX0_put_6 (by decide) ?_
    refine lv_icmp_gt (tgt := 19) hx hb dX0_put_8 (by decide) (fun c_6 => ?_) (fun c_6 => ?_)
    · exact absurd (show nI 8 < nI q from c_6) (nI_nlt (by omega) (by omega))
    · refine lv_aload_n hx hb dX0_put_11 rfl (lv_at hl 0 rfl) ?_
      refine lv_iload_n hx hb dX0_put_12 rfl (lv_at hl 2 rfl) ?_
      refine vp_callSi (W.runV (As := [.int (nI q)]) (rest := []) ⟨hx, hb, hml, hown, hts⟩ (c_X0_hasRoomFor l dC dI h0 h1 h2 h3 cA t0 t1 t2 t3 tx n ch pl k rl fp (nI q)) (cwV 1 hts gX0_put_X0_hasRoomFor rfl rfl rfl (by decide +kernel) ⟨Nat.le_of_ble_eq_true rfl, Nat.le_of_ble_eq_true rfl⟩) ⟨xpre_blind, va_recv hK hP (ci := 0) (q0 := 0) rfl rfl, fun U hU hW => ⟨rfl, xpre_of hP hK hT hS hU hW⟩⟩ rfl rfl hl.1 rfl (lv_room (Nat.le_of_ble_eq_true rfl)) dX0_put_13 ⟨Nat.le_of_ble_eq_true rfl, Nat.le_of_ble_eq_true rfl⟩) (fun r_7 er_7 => ?_)
      obtain rfl : r_7 = bI (xRoom n (nI q)) := er_7
      refine lv_if_ne (tgt := 21) hx hb dX0_put_16 (by decide) (fun c_8 => ?_) (fun c_8 => ?_)
      · have c_8 := bI_n0 c_8
        refine lv_iload_n hx hb dX0_put_21 rfl (lv_at hl 2 rfl) ?_
        refine lv_iconst (v := 1) hx hb dX0_put_22 (by decide) ?_
        refine lv_isub hx hb dX0_put_23 ?_
        refine lv_topi (fun x_9 ex_9 => ?_)
        obtain rfl : x_9 = nI q + (-1) := ex_9.trans ((pk_sub (b := 1) (by omega)).trans (sb_m1 (by omega)).symm)
        refine lv_istore (lv' := [(4, .int (nI q + (-1))), (0, .ref h0), (1, .long v), (3, .int (nI q))]) hx hb dX0_put_24 hl (by decide) rfl (fun ls hl => ?_)
        exact loop q 0 s.heap [] ls (by omega) hP hD hS (lv_sub hl [0, 1, 2, 3] rfl)
      · exact absurd (xRoom_ok hroom) (bI_0 c_8)
set_option maxHeartbeats 4000000 in
set_option maxRecDepth 100000 in
theorem c_X0_character_no (l : Launch) (dC : Nat → ClassId) (dI : Nat → Nat → Nat) (h0 h1 h2 h3 : Nat) (cA : ClassId) (t0 t1 t2 t3 : Nat) (sz : Nat) (tx : Nat → Int32) (n : Nat) (ch pl : Nat → Int32) (k : Nat) (rl : Int32) (fp : Int32) (v : Int32) (hno : xChOk n v = false) : Met l yX0_character wsX0_character ({ frames := 2, cells := 0, slots := 0, locals := 43 }) (va_Pc [.ref h0, .int v] (fun U => xmut dC dI h0 h1 h2 h3 cA t0 t1 t2 t3 sz (tx, n, ch, pl, k, rl, fp) U)) (va_Qi (fun (r : Int32) (u : XS) => r = 0 ∧ u = (tx, n, ch, pl, k, rl, fp)) (xatt dC dI h0 h1 h2 h3 cA (va_A (xw h0 h1 h2 h3 cA (tx, n, ch, pl, k, rl, fp)) sz)) (va_A (xw h0 h1 h2 h3 cA (tx, n, ch, pl, k, rl, fp)) sz)) 0 0 (va_A (xw h0 h1 h2 h3 cA (tx, n, ch, pl, k, rl, fp)) sz) := by
  refine Met.ofW (cc := cX0_character) (maxL := 4) (ret := (some .boolean)) (by decide) rfl ?_
  intro p e s m args below meth c s₁ B hml hv
  obtain ⟨rfl, hsz, hP, hK, hD0, hT⟩ := hv
  have hx := B.exec
  have hb := B.bytes
  have hr := B.returns
  have hts := atoms_spec (ws := wsX0_character) B.pre
  have hown : s.vm.findClass RX0 = some m.cls := findClass_of_methodNamed B.named
  subst hsz
  have hD := hD0.self (sz := s.heap.size)
  generalize hAe : va_A (xw h0 h1 h2 h3 cA (tx, n, ch, pl, k, rl, fp)) s.heap.size = A at hD hT ⊢
  have hA : ∀ q : Nat, s.heap.size ≤ q → A q := fun q h => by rw [← hAe]; exact Or.inr h
  have hS : va_S A s.heap s.heap [] := va_S.rf
  have hP : va_P (dC, dI) vwCl [(h0, .inr (0, [.ref h1, .int (nI n), .ref h2, .ref h3, .int (nI k), .int rl, .int fp])), (h1, .inl (cA, 1000, .inl tx)), (h2, .inl (cA, 1000, .inl ch)), (h3, .inl (cA, 1000, .inl pl))] s.heap := hP
  have hD : va_D A [(h0, .inr (0, [.ref h1, .int (nI n), .ref h2, .ref h3, .int (nI k), .int rl, .int fp])), (h1, .inl (cA, 1000, .inl tx)), (h2, .inl (cA, 1000, .inl ch)), (h3, .inl (cA, 1000, .inl pl))] := hD
  have hIn : ∀ w ∈ wsX00, w ∈ wsX0_character := by decide +kernel
  obtain ⟨hz0, ht0, hz1, ht1, hz2, ht2, hz3, ht3⟩ := id hT
  have hl := lv_entry ([.ref h0, .int v]) (n := 4) (Nat.le_of_ble_eq_true rfl)
  rw [lg_entry_eq]
  generalize (lg_sl ([.ref h0, .int v]) ++ List.replicate (4 - (lg_sl ([.ref h0, .int v])).length) Slot.unset).toArray = ls at hl ⊢
  have hl : lv_has ls 4 [(0, .ref h0), (1, .int v)] := hl
  refine lv_iload_n hx hb dX0_character_0 rfl (lv_at hl 1 rfl) ?_
  refine vp_callSi (W.runS (As := [.int v]) (rest := []) ⟨hx, hb, hml, hown, hts⟩ (c_X0_widthOf l v) (va_cwS 1 hts gX0_character_X0_widthOf rfl rfl rfl (by decide +kernel) ⟨Nat.le_of_ble_eq_true rfl, Nat.le_of_ble_eq_true rfl⟩) ⟨fun _ _ _ _ q => q, fun U hU hW => ⟨rfl, trivial⟩⟩ rfl rfl hl.1 rfl (lv_room (Nat.le_of_ble_eq_true rfl)) dX0_character_1 ⟨Nat.le_of_ble_eq_true rfl, Nat.le_of_ble_eq_true rfl⟩) (fun r_1 er_1 => ?_)
  obtain rfl : r_1 = xWidth v := er_1
  refine lv_istore_n (lv' := [(2, .int (xWidth v)), (0, .ref h0), (1, .int v)]) hx hb dX0_character_4 rfl hl (by decide) rfl (fun ls hl => ?_)
  refine lv_iload_n hx hb dX0_character_5 rfl (lv_at hl 0 rfl) ?_
  refine lv_if_eq (tgt := 17) hx hb dX0_character_6 (by decide) (fun c_2 => ?_) (fun c_2 => ?_)
  · refine lv_iconst (v := 0) hx hb dX0_character_17 (by decide) ?_
    have hP9 : va_P (dC, dI) vwCl (xw h0 h1 h2 h3 cA (tx, n, ch, pl, k, rl, fp)) s.heap := hP
    have hD9 : va_D A (xw h0 h1 h2 h3 cA (tx, n, ch, pl, k, rl, fp)) := hD
    exact W.zret (v := 0) (ty := .boolean) hx hb hr (rfl) (fun t ht hW => ⟨⟨0, (tx, n, ch, pl, k, rl, fp), rfl, ⟨rfl, rfl⟩, by rw [ht]; exact hP9, va_K.moved hW.alike hK, hD9⟩, hS.F ht⟩) hS.2.2 dX0_character_18
  · refine lv_aload_n hx hb dX0_character_9 rfl (lv_at hl 1 rfl) ?_
    refine lv_iload_n hx hb dX0_character_10 rfl (lv_at hl 0 rfl) ?_
    refine vp_callSi (W.runV (As := [.int (xWidth v)]) (rest := []) ⟨hx, hb, hml, hown, hts⟩ (c_X0_hasRoomFor l dC dI h0 h1 h2 h3 cA t0 t1 t2 t3 tx n ch pl k rl fp (xWidth v)) (cwV 1 hts gX0_character_X0_hasRoomFor rfl rfl rfl (by decide +kernel) ⟨Nat.le_of_ble_eq_true rfl, Nat.le_of_ble_eq_true rfl⟩) ⟨xpre_blind, va_recv hK hP (ci := 0) (q0 := 0) rfl rfl, fun U hU hW => ⟨rfl, xpre_of hP hK hT hS hU hW⟩⟩ rfl rfl hl.1 rfl (lv_room (Nat.le_of_ble_eq_true rfl)) dX0_character_11 ⟨Nat.le_of_ble_eq_true rfl, Nat.le_of_ble_eq_true rfl⟩) (fun r_3 er_3 => ?_)
    obtain rfl : r_3 = bI (xRoom n (xWidth v)) := er_3
    refine lv_if_ne (tgt := 19) hx hb dX0_character_14 (by decide) (fun c_4 => ?_) (fun c_4 => ?_)
    · exact absurd hno (by rw [xChOk, if_neg c_2, bI_n0 c_4]; decide)
    · have c_4 := bI_0 c_4
      refine lv_iconst (v := 0) hx hb dX0_character_17 (by decide) ?_
      have hP9 : va_P (dC, dI) vwCl (xw h0 h1 h2 h3 cA (tx, n, ch, pl, k, rl, fp)) s.heap := hP
      have hD9 : va_D A (xw h0 h1 h2 h3 cA (tx, n, ch, pl, k, rl, fp)) := hD
      exact W.zret (v := 0) (ty := .boolean) hx hb hr (rfl) (fun t ht hW => ⟨⟨0, (tx, n, ch, pl, k, rl, fp), rfl, ⟨rfl, rfl⟩, by rw [ht]; exact hP9, va_K.moved hW.alike hK, hD9⟩, hS.F ht⟩) hS.2.2 dX0_character_18
set_option maxHeartbeats 4000000 in
set_option maxRecDepth 100000 in
theorem c_X0_character_ok (l : Launch) (dC : Nat → ClassId) (dI : Nat → Nat → Nat) (h0 h1 h2 h3 : Nat) (cA : ClassId) (t0 t1 t2 t3 : Nat) (sz : Nat) (tx : Nat → Int32) (n : Nat) (ch pl : Nat → Int32) (k : Nat) (rl : Int32) (fp : Int32) (v : Int32) (q : Nat) (hw : xWidth v = nI q) (h1q : 1 ≤ q) (hq4 : q ≤ 4) (hroom : n + q ≤ 1000) : Met l yX0_character wsX0_character ({ frames := 2, cells := 0, slots := 0, locals := 43 }) (va_Pc [.ref h0, .int v] (fun U => xmut dC dI h0 h1 h2 h3 cA t0 t1 t2 t3 sz (tx, n, ch, pl, k, rl, fp) U)) (va_Qi (fun (r : Int32) (u : XS) => r = 1 ∧ u = (putTx tx n (fun z => xEnc v (nI q) (nI z)) q, n + q, ch, pl, k, rl, fp)) (xatt dC dI h0 h1 h2 h3 cA (va_A (xw h0 h1 h2 h3 cA (tx, n, ch, pl, k, rl, fp)) sz)) (va_A (xw h0 h1 h2 h3 cA (tx, n, ch, pl, k, rl, fp)) sz)) 0 0 (va_A (xw h0 h1 h2 h3 cA (tx, n, ch, pl, k, rl, fp)) sz) := by
  refine Met.ofW (cc := cX0_character) (maxL := 4) (ret := (some .boolean)) (by decide) rfl ?_
  intro p e s m args below meth c s₁ B hml hv
  obtain ⟨rfl, hsz, hP, hK, hD0, hT⟩ := hv
  have hx := B.exec
  have hb := B.bytes
  have hr := B.returns
  have hts := atoms_spec (ws := wsX0_character) B.pre
  have hown : s.vm.findClass RX0 = some m.cls := findClass_of_methodNamed B.named
  subst hsz
  have hD := hD0.self (sz := s.heap.size)
  generalize hAe : va_A (xw h0 h1 h2 h3 cA (tx, n, ch, pl, k, rl, fp)) s.heap.size = A at hD hT ⊢
  have hA : ∀ q : Nat, s.heap.size ≤ q → A q := fun q h => by rw [← hAe]; exact Or.inr h
  have hS : va_S A s.heap s.heap [] := va_S.rf
  have hP : va_P (dC, dI) vwCl [(h0, .inr (0, [.ref h1, .int (nI n), .ref h2, .ref h3, .int (nI k), .int rl, .int fp])), (h1, .inl (cA, 1000, .inl tx)), (h2, .inl (cA, 1000, .inl ch)), (h3, .inl (cA, 1000, .inl pl))] s.heap := hP
  have hD : va_D A [(h0, .inr (0, [.ref h1, .int (nI n), .ref h2, .ref h3, .int (nI k), .int rl, .int fp])), (h1, .inl (cA, 1000, .inl tx)), (h2, .inl (cA, 1000, .inl ch)), (h3, .inl (cA, 1000, .inl pl))] := hD
  have hIn : ∀ w ∈ wsX00, w ∈ wsX0_character := by decide +kernel
  obtain ⟨hz0, ht0, hz1, ht1, hz2, ht2, hz3, ht3⟩ := id hT
  have hl := lv_entry ([.ref h0, .int v]) (n := 4) (Nat.le_of_ble_eq_true rfl)
  rw [lg_entry_eq]
  generalize (lg_sl ([.ref h0, .int v]) ++ List.replicate (4 - (lg_sl ([.ref h0, .int v])).length) Slot.unset).toArray = ls at hl ⊢
  have hl : lv_has ls 4 [(0, .ref h0), (1, .int v)] := hl
  have loop : ∀ (d i : Nat) (H : Heap) (locs : List Loc) (ls : Array Slot), i + d = q → va_P (dC, dI) vwCl [(h0, .inr (0, [.ref h1, .int (nI (n + i)), .ref h2, .ref h3, .int (nI k), .int rl, .int fp])), (h1, .inl (cA, 1000, .inl (putTx tx n (fun z => xEnc v (nI q) (nI z)) i))), (h2, .inl (cA, 1000, .inl ch)), (h3, .inl (cA, 1000, .inl pl))] H → va_D A [(h0, .inr (0, [.ref h1, .int (nI (n + i)), .ref h2, .ref h3, .int (nI k), .int rl, .int fp])), (h1, .inl (cA, 1000, .inl (putTx tx n (fun z => xEnc v (nI q) (nI z)) i))), (h2, .inl (cA, 1000, .inl ch)), (h3, .inl (cA, 1000, .inl pl))] → va_S A s.heap H locs → lv_has ls 4 [(3, .int (nI i)), (2, .int (nI q)), (0, .ref h0), (1, .int v)] → W p l e (headSpec wsX0_character ({ frames := 2, cells := 0, slots := 0, locals := 43 })).room s m ([.ref h0, .int v] : List Value).toArray below meth c H locs 0 0 (MQ below (va_Qi (fun (r : Int32) (u : XS) => r = 1 ∧ u = (putTx tx n (fun z => xEnc v (nI q) (nI z)) q, n + q, ch, pl, k, rl, fp)) (xatt dC dI h0 h1 h2 h3 cA A) A) ([.ref h0, .int v] : List Value).toArray s 0 0 A) (F0 m 21 ls []) := by
    intro d
    induction d with
    | zero =>
      intro i H locs ls hid hP hD hS hl
      refine lv_iload_n hx hb dX0_character_21 rfl (lv_at hl 0 rfl) ?_
      refine lv_iload_n hx hb dX0_character_22 rfl (lv_at hl 1 rfl) ?_
      refine lv_icmp_ge (tgt := 42) hx hb dX0_character_23 (by decide) (fun c_1 => ?_) (fun c_1 => ?_)
      · refine lv_iconst (v := 1) hx hb dX0_character_42 (by decide) ?_
        have hP9 : va_P (dC, dI) vwCl (xw h0 h1 h2 h3 cA ((putTx tx n (fun z => xEnc v (nI q) (nI z)) i), (n + i), ch, pl, k, rl, fp)) H := hP
        have hD9 : va_D A (xw h0 h1 h2 h3 cA ((putTx tx n (fun z => xEnc v (nI q) (nI z)) i), (n + i), ch, pl, k, rl, fp)) := hD
        exact W.zret (v := 1) (ty := .boolean) hx hb hr (rfl) (fun t ht hW => ⟨⟨1, ((putTx tx n (fun z => xEnc v (nI q) (nI z)) i), (n + i), ch, pl, k, rl, fp), rfl, ⟨rfl, by rw [show i = q by omega]⟩, by rw [ht]; exact hP9, va_K.moved hW.alike hK, hD9⟩, hS.F ht⟩) hS.2.2 dX0_character_43
      · exact absurd (nI_le (by omega) (by omega)) c_1
    | succ d ih =>
      intro i H locs ls hid hP hD hS hl
      refine lv_iload_n hx hb dX0_character_21 rfl (lv_at hl 0 rfl) ?_
      refine lv_iload_n hx hb dX0_character_22 rfl (lv_at hl 1 rfl) ?_
      refine lv_icmp_ge (tgt := 42) hx hb dX0_character_23 (by decide) (fun c_2 => ?_) (fun c_2 => ?_)
      · exact absurd c_2 (nI_ge (by omega) (by omega))
      · refine lv_aload_n hx hb dX0_character_26 rfl (lv_at hl 2 rfl) ?_
        refine lv_iload_n hx hb dX0_character_27 rfl (lv_at hl 3 rfl) ?_
        refine lv_iload_n hx hb dX0_character_28 rfl (lv_at hl 1 rfl) ?_
        refine lv_iload_n hx hb dX0_character_29 rfl (lv_at hl 0 rfl) ?_
        refine vp_callSi (W.runS (As := [.int v, .int (nI q), .int (nI i)]) (rest := [.ref h0]) ⟨hx, hb, hml, hown, hts⟩ (c_X0_encodedByte l v (nI q) (nI i)) (va_cwS 3 hts gX0_character_X0_encodedByte rfl rfl rfl (by decide +kernel) ⟨Nat.le_of_ble_eq_true rfl, Nat.le_of_ble_eq_true rfl⟩) ⟨fun _ _ _ _ q => q, fun U hU hW => ⟨rfl, trivial⟩⟩ rfl rfl hl.1 rfl (lv_room (Nat.le_of_ble_eq_true rfl)) dX0_character_30 ⟨Nat.le_of_ble_eq_true rfl, Nat.le_of_ble_eq_true rfl⟩) (fun r_3 er_3 => ?_)
        obtain rfl : r_3 = xEnc v (nI q) (nI i) := er_3
        have hFc := va_free (wc := xw h0 h1 h2 h3 cA ((putTx tx n (fun z => xEnc v (nI q) (nI z)) i), (n + i), ch, pl, k, rl, fp)) hD hS hA [0, 1, 2, 3] rfl
        refine va_callv (va_runV (As := [.int (xEnc v (nI q) (nI i))]) (rest := []) ⟨hx, hb, hml, hown, hts⟩ (c_X0_append l dC dI h0 h1 h2 h3 cA t0 t1 t2 t3 H.size (putTx tx n (fun z => xEnc v (nI q) (nI z)) i) (n + i) ch pl k rl fp (xEnc v (nI q) (nI i)) (by omega)) (cwV 1 hts gX0_character_X0_append rfl rfl rfl (by decide +kernel) ⟨Nat.le_of_ble_eq_true rfl, Nat.le_of_ble_eq_true rfl⟩) ⟨xmut_blind, va_recv hK hP (ci := 0) (q0 := 0) rfl rfl, fun U hU hW => ⟨rfl, xmut_of hP hK hD hT hS hFc hU hW⟩⟩ rfl rfl hl.1 rfl (lv_room (Nat.le_of_ble_eq_true rfl)) dX0_character_33 ⟨Nat.le_of_ble_eq_true rfl, Nat.le_of_ble_eq_true rfl⟩) hS (fun q _ h => hFc q h) hFc (fun u_4 t_4 H1 locs ht hvm hw hB hz1 hk1 hS => ?_)
        obtain rfl : u_4 = ((upd (putTx tx n (fun z => xEnc v (nI q) (nI z)) i) (n + i) (xEnc v (nI q) (nI i))), ((n + i) + 1), ch, pl, k, rl, fp) := hw
        obtain ⟨hP1, hK1, hD1⟩ := hB
        rw [ht] at hP1
        obtain ⟨hP, hD⟩ := va_join (wr := []) (w1 := xw h0 h1 h2 h3 cA ((upd (putTx tx n (fun z => xEnc v (nI q) (nI z)) i) (n + i) (xEnc v (nI q) (nI i))), ((n + i) + 1), ch, pl, k, rl, fp)) hP hD [0, 1, 2, 3] [] rfl rfl (by decide) (by decide) hk1 hFc hP1 hD1
        generalize H1 = H at hP hS ⊢
        have hP : va_P (dC, dI) vwCl [(h0, .inr (0, [.ref h1, .int (nI ((n + i) + 1)), .ref h2, .ref h3, .int (nI k), .int rl, .int fp])), (h1, .inl (cA, 1000, .inl (upd (putTx tx n (fun z => xEnc v (nI q) (nI z)) i) (n + i) (xEnc v (nI q) (nI i))))), (h2, .inl (cA, 1000, .inl ch)), (h3, .inl (cA, 1000, .inl pl))] H := hP
        have hD : va_D A [(h0, .inr (0, [.ref h1, .int (nI ((n + i) + 1)), .ref h2, .ref h3, .int (nI k), .int rl, .int fp])), (h1, .inl (cA, 1000, .inl (upd (putTx tx n (fun z => xEnc v (nI q) (nI z)) i) (n + i) (xEnc v (nI q) (nI i))))), (h2, .inl (cA, 1000, .inl ch)), (h3, .inl (cA, 1000, .inl pl))] := hD
        refine lv_iinc (v := nI (i + 1)) (lv' := [(3, .int (nI (i + 1))), (2, .int (nI q)), (0, .ref h0), (1, .int v)]) hx hb dX0_character_36 hl (k := 0) rfl (nI_1 _) (by decide) rfl (fun ls hl => ?_)
        refine lv_goto (tgt := 21) hx hb dX0_character_39 (by decide) ?_
        exact ih (i + 1) H locs ls (by omega) hP hD hS (lv_sub hl [0, 1, 2, 3] rfl)
  refine lv_iload_n hx hb dX0_character_0 rfl (lv_at hl 1 rfl) ?_
  refine vp_callSi (W.runS (As := [.int v]) (rest := []) ⟨hx, hb, hml, hown, hts⟩ (c_X0_widthOf l v) (va_cwS 1 hts gX0_character_X0_widthOf rfl rfl rfl (by decide +kernel) ⟨Nat.le_of_ble_eq_true rfl, Nat.le_of_ble_eq_true rfl⟩) ⟨fun _ _ _ _ q => q, fun U hU hW => ⟨rfl, trivial⟩⟩ rfl rfl hl.1 rfl (lv_room (Nat.le_of_ble_eq_true rfl)) dX0_character_1 ⟨Nat.le_of_ble_eq_true rfl, Nat.le_of_ble_eq_true rfl⟩) (fun r_5 er_5 => ?_)
  obtain rfl : r_5 = xWidth v := er_5
  rw [hw]
  refine lv_istore_n (lv' := [(2, .int (nI q)), (0, .ref h0), (1, .int v)]) hx hb dX0_character_4 rfl hl (by decide) rfl (fun ls hl => ?_)
  refine lv_iload_n hx hb dX0_character_5 rfl (lv_at hl 0 rfl) ?_
  refine lv_if_eq (tgt := 17) hx hb dX0_character_6 (by decide) (fun c_6 => ?_) (fun c_6 => ?_)
  · exact absurd c_6 (nI_ne0 (by omega) (by omega))
  · refine lv_aload_n hx hb dX0_character_9 rfl (lv_at hl 1 rfl) ?_
    refine lv_iload_n hx hb dX0_character_10 rfl (lv_at hl 0 rfl) ?_
    refine vp_callSi (W.runV (As := [.int (nI q)]) (rest := []) ⟨hx, hb, hml, hown, hts⟩ (c_X0_hasRoomFor l dC dI h0 h1 h2 h3 cA t0 t1 t2 t3 tx n ch pl k rl fp (nI q)) (cwV 1 hts gX0_character_X0_hasRoomFor rfl rfl rfl (by decide +kernel) ⟨Nat.le_of_ble_eq_true rfl, Nat.le_of_ble_eq_true rfl⟩) ⟨xpre_blind, va_recv hK hP (ci := 0) (q0 := 0) rfl rfl, fun U hU hW => ⟨rfl, xpre_of hP hK hT hS hU hW⟩⟩ rfl rfl hl.1 rfl (lv_room (Nat.le_of_ble_eq_true rfl)) dX0_character_11 ⟨Nat.le_of_ble_eq_true rfl, Nat.le_of_ble_eq_true rfl⟩) (fun r_7 er_7 => ?_)
    obtain rfl : r_7 = bI (xRoom n (nI q)) := er_7
    refine lv_if_ne (tgt := 19) hx hb dX0_character_14 (by decide) (fun c_8 => ?_) (fun c_8 => ?_)
    · have c_8 := bI_n0 c_8
      refine lv_iconst (v := 0) hx hb dX0_character_19 (by decide) ?_
      refine lv_istore_n (lv' := [(3, .int 0), (2, .int (nI q)), (0, .ref h0), (1, .int v)]) hx hb dX0_character_20 rfl hl (by decide) rfl (fun ls hl => ?_)
      exact loop q 0 s.heap [] ls (by omega) hP hD hS (lv_sub hl [0, 1, 2, 3] rfl)
    · exact absurd (xRoom_ok hroom) (bI_0 c_8)
