set_option maxHeartbeats 4000000 in
set_option maxRecDepth 100000 in
theorem c_X0_append (l : Launch) (dC : Nat → ClassId) (dI : Nat → Nat → Nat) (h0 h1 h2 h3 : Nat) (cA : ClassId) (t0 t1 t2 t3 : Nat) (sz : Nat) (tx : Nat → Int32) (n : Nat) (ch pl : Nat → Int32) (k : Nat) (rd : Bool) (fp : Int32) (v : Int32) (hn : n < 1000) : Met l yX0_append wsX0_append ({ frames := 0, cells := 0, slots := 0, locals := 0 }) (va_Pc [.ref h0, .int v] (fun U => xmut dC dI h0 h1 h2 h3 cA t0 t1 t2 t3 sz (tx, n, ch, pl, k, rd, fp) U)) (va_Qv (fun u : XS => u = (upd tx n v, n + 1, ch, pl, k, rd, fp)) (xatt dC dI h0 h1 h2 h3 cA (va_A (xw h0 h1 h2 h3 cA (tx, n, ch, pl, k, rd, fp)) sz)) (va_A (xw h0 h1 h2 h3 cA (tx, n, ch, pl, k, rd, fp)) sz)) 0 0 (va_A (xw h0 h1 h2 h3 cA (tx, n, ch, pl, k, rd, fp)) sz) := by
  refine Met.ofW (cc := cX0_append) (maxL := 2) (ret := none) (by decide) rfl ?_
  intro p e s m args below meth c s₁ B hml hv
  obtain ⟨rfl, hsz, hP, hK, hD0, hT⟩ := hv
  have hx := B.exec
  have hb := B.bytes
  have hr := B.returns
  have hts := atoms_spec (ws := wsX0_append) B.pre
  have hown : s.vm.findClass RX0 = some m.cls := findClass_of_methodNamed B.named
  subst hsz
  have hD := hD0.self (sz := s.heap.size)
  generalize hAe : va_A (xw h0 h1 h2 h3 cA (tx, n, ch, pl, k, rd, fp)) s.heap.size = A at hD hT ⊢
  have hA : ∀ q : Nat, s.heap.size ≤ q → A q := fun q h => by rw [← hAe]; exact Or.inr h
  have hS : va_S A s.heap s.heap [] := va_S.rf
  have hP : va_P (dC, dI) vwCl [(h0, .inr (0, [.ref h1, .int (nI n), .ref h2, .ref h3, .int (nI k), .int (bI rd), .int fp])), (h1, .inl (cA, 1000, .inl tx)), (h2, .inl (cA, 1000, .inl ch)), (h3, .inl (cA, 1001, .inl pl))] s.heap := hP
  have hD : va_D A [(h0, .inr (0, [.ref h1, .int (nI n), .ref h2, .ref h3, .int (nI k), .int (bI rd), .int fp])), (h1, .inl (cA, 1000, .inl tx)), (h2, .inl (cA, 1000, .inl ch)), (h3, .inl (cA, 1001, .inl pl))] := hD
  have hIn : ∀ w ∈ wsX00, w ∈ wsX0_append := by decide +kernel
  obtain ⟨hz0, ht0, hz1, ht1, hz2, ht2, hz3, ht3⟩ := id hT
  have hl := lv_entry ([.ref h0, .int v]) (n := 2) (Nat.le_of_ble_eq_true rfl)
  rw [lg_entry_eq]
  generalize (lg_sl ([.ref h0, .int v]) ++ List.replicate (2 - (lg_sl ([.ref h0, .int v])).length) Slot.unset).toArray = ls at hl ⊢
  have hl : lv_has ls 2 [(0, .ref h0), (1, .int v)] := hl
  refine lv_aload_n hx hb dX0_append_0 rfl (lv_at hl 0 rfl) ?_
  refine va_get (D := (dC, dI)) (ci := 0) (v := .int (nI n)) (C := RX0) (T := TX0) (N := 7) hx hb hts hIn hown hK hP 0 rfl rfl 1 (by decide) (hts (.fieldLink RX0 19 RX0 "textLength" "I") (by decide +kernel)) (fun _ h9 => h9) rfl dX0_append_1 ?_
  refine lv_sipush (v := 1000) hx hb dX0_append_4 (by decide) ?_
  refine lv_icmp_ge (tgt := 30) hx hb dX0_append_7 (by decide) (fun c_1 => ?_) (fun c_1 => ?_)
  · exact absurd (show nI 1000 ≤ nI n from c_1) (nI_ge (by omega) (by omega))
  · refine lv_aload_n hx hb dX0_append_10 rfl (lv_at hl 0 rfl) ?_
    refine va_get (D := (dC, dI)) (ci := 0) (v := .ref h1) (C := RX0) (T := TX0) (N := 7) hx hb hts hIn hown hK hP 0 rfl rfl 0 (by decide) (hts (.fieldLink RX0 9 RX0 "text" "[I") (by decide +kernel)) (fun _ h9 => h9) rfl dX0_append_11 ?_
    refine lv_aload_n hx hb dX0_append_14 rfl (lv_at hl 0 rfl) ?_
    refine va_get (D := (dC, dI)) (ci := 0) (v := .int (nI n)) (C := RX0) (T := TX0) (N := 7) hx hb hts hIn hown hK hP 0 rfl rfl 1 (by decide) (hts (.fieldLink RX0 19 RX0 "textLength" "I") (by decide +kernel)) (fun _ h9 => h9) rfl dX0_append_15 ?_
    refine lv_iload_n hx hb dX0_append_18 rfl (lv_at hl 1 rfl) ?_
    refine va_iast hx hb hK hP hD hS 1 0 rfl rfl (vp_in_nI (by omega) (by omega)) dX0_append_19 (fun H locs hP hD hS => ?_)
    rw [nI_clamp (by omega)] at hP hD
    have hP : va_P (dC, dI) vwCl [(h0, .inr (0, [.ref h1, .int (nI n), .ref h2, .ref h3, .int (nI k), .int (bI rd), .int fp])), (h1, .inl (cA, 1000, .inl (upd tx n v))), (h2, .inl (cA, 1000, .inl ch)), (h3, .inl (cA, 1001, .inl pl))] H := hP
    have hD : va_D A [(h0, .inr (0, [.ref h1, .int (nI n), .ref h2, .ref h3, .int (nI k), .int (bI rd), .int fp])), (h1, .inl (cA, 1000, .inl (upd tx n v))), (h2, .inl (cA, 1000, .inl ch)), (h3, .inl (cA, 1001, .inl pl))] := hD
    refine lv_aload_n hx hb dX0_append_20 rfl (lv_at hl 0 rfl) ?_
    refine lv_dup hx hb dX0_append_21 rfl ?_
    refine va_get (D := (dC, dI)) (ci := 0) (v := .int (nI n)) (C := RX0) (T := TX0) (N := 7) hx hb hts hIn hown hK hP 0 rfl rfl 1 (by decide) (hts (.fieldLink RX0 19 RX0 "textLength" "I") (by decide +kernel)) (fun _ h9 => h9) rfl dX0_append_22 ?_
    refine lv_iconst (v := 1) hx hb dX0_append_25 (by decide) ?_
    refine lv_iadd hx hb dX0_append_26 ?_
    refine lv_topi (fun x_2 ex_2 => ?_)
    obtain rfl : x_2 = nI (n + 1) := ex_2.trans (nI_1 _)
    refine va_put (D := (dC, dI)) (ci := 0) (v := .int (nI (n + 1))) (ty := .int) (C := RX0) (T := TX0) (N := 7) hx hb hts hIn tyX0 tyX0_ok nmX0 hown hK hP hD hS 0 rfl rfl 1 (by decide) (hts (.fieldLink RX0 19 RX0 "textLength" "I") (by decide +kernel)) (fun _ h9 => h9) rfl (by decide +kernel) rfl rfl (Nat.le_of_ble_eq_true rfl) dX0_append_27 (fun H locs hP hD hS => ?_)
    have hP : va_P (dC, dI) vwCl [(h0, .inr (0, [.ref h1, .int (nI (n + 1)), .ref h2, .ref h3, .int (nI k), .int (bI rd), .int fp])), (h1, .inl (cA, 1000, .inl (upd tx n v))), (h2, .inl (cA, 1000, .inl ch)), (h3, .inl (cA, 1001, .inl pl))] H := hP
    have hD : va_D A [(h0, .inr (0, [.ref h1, .int (nI (n + 1)), .ref h2, .ref h3, .int (nI k), .int (bI rd), .int fp])), (h1, .inl (cA, 1000, .inl (upd tx n v))), (h2, .inl (cA, 1000, .inl ch)), (h3, .inl (cA, 1001, .inl pl))] := hD
    have hP9 : va_P (dC, dI) vwCl (xw h0 h1 h2 h3 cA ((upd tx n v), (n + 1), ch, pl, k, rd, fp)) H := hP
    have hD9 : va_D A (xw h0 h1 h2 h3 cA ((upd tx n v), (n + 1), ch, pl, k, rd, fp)) := hD
    exact W.vret hx hb hr (fun t ht hW => ⟨⟨((upd tx n v), (n + 1), ch, pl, k, rd, fp), rfl, rfl, by rw [ht]; exact hP9, va_K.moved hW.alike hK, hD9⟩, hS.F ht⟩) hS.2.2 dX0_append_30
set_option maxHeartbeats 4000000 in
set_option maxRecDepth 100000 in
theorem c_X0_forgetReading (l : Launch) (dC : Nat → ClassId) (dI : Nat → Nat → Nat) (h0 h1 h2 h3 : Nat) (cA : ClassId) (t0 t1 t2 t3 : Nat) (sz : Nat) (tx : Nat → Int32) (n : Nat) (ch pl : Nat → Int32) (k : Nat) (rd : Bool) (fp : Int32)  : Met l yX0_forgetReading wsX0_forgetReading ({ frames := 0, cells := 0, slots := 0, locals := 0 }) (va_Pc [.ref h0] (fun U => xmut dC dI h0 h1 h2 h3 cA t0 t1 t2 t3 sz (tx, n, ch, pl, k, rd, fp) U)) (va_Qv (fun u : XS => u = (tx, n, ch, pl, 0, false, -1)) (xatt dC dI h0 h1 h2 h3 cA (va_A (xw h0 h1 h2 h3 cA (tx, n, ch, pl, k, rd, fp)) sz)) (va_A (xw h0 h1 h2 h3 cA (tx, n, ch, pl, k, rd, fp)) sz)) 0 0 (va_A (xw h0 h1 h2 h3 cA (tx, n, ch, pl, k, rd, fp)) sz) := by
  refine Met.ofW (cc := cX0_forgetReading) (maxL := 1) (ret := none) (by decide) rfl ?_
  intro p e s m args below meth c s₁ B hml hv
  obtain ⟨rfl, hsz, hP, hK, hD0, hT⟩ := hv
  have hx := B.exec
  have hb := B.bytes
  have hr := B.returns
  have hts := atoms_spec (ws := wsX0_forgetReading) B.pre
  have hown : s.vm.findClass RX0 = some m.cls := findClass_of_methodNamed B.named
  subst hsz
  have hD := hD0.self (sz := s.heap.size)
  generalize hAe : va_A (xw h0 h1 h2 h3 cA (tx, n, ch, pl, k, rd, fp)) s.heap.size = A at hD hT ⊢
  have hA : ∀ q : Nat, s.heap.size ≤ q → A q := fun q h => by rw [← hAe]; exact Or.inr h
  have hS : va_S A s.heap s.heap [] := va_S.rf
  have hP : va_P (dC, dI) vwCl [(h0, .inr (0, [.ref h1, .int (nI n), .ref h2, .ref h3, .int (nI k), .int (bI rd), .int fp])), (h1, .inl (cA, 1000, .inl tx)), (h2, .inl (cA, 1000, .inl ch)), (h3, .inl (cA, 1001, .inl pl))] s.heap := hP
  have hD : va_D A [(h0, .inr (0, [.ref h1, .int (nI n), .ref h2, .ref h3, .int (nI k), .int (bI rd), .int fp])), (h1, .inl (cA, 1000, .inl tx)), (h2, .inl (cA, 1000, .inl ch)), (h3, .inl (cA, 1001, .inl pl))] := hD
  have hIn : ∀ w ∈ wsX00, w ∈ wsX0_forgetReading := by decide +kernel
  obtain ⟨hz0, ht0, hz1, ht1, hz2, ht2, hz3, ht3⟩ := id hT
  have hl := lv_entry ([.ref h0]) (n := 1) (Nat.le_of_ble_eq_true rfl)
  rw [lg_entry_eq]
  generalize (lg_sl ([.ref h0]) ++ List.replicate (1 - (lg_sl ([.ref h0])).length) Slot.unset).toArray = ls at hl ⊢
  have hl : lv_has ls 1 [(0, .ref h0)] := hl
  refine lv_aload_n hx hb dX0_forgetReading_0 rfl (lv_at hl 0 rfl) ?_
  refine lv_iconst (v := 0) hx hb dX0_forgetReading_1 (by decide) ?_
  refine va_put (D := (dC, dI)) (ci := 0) (v := .int 0) (ty := .int) (C := RX0) (T := TX0) (N := 7) hx hb hts hIn tyX0 tyX0_ok nmX0 hown hK hP hD hS 0 rfl rfl 4 (by decide) (hts (.fieldLink RX0 23 RX0 "count" "I") (by decide +kernel)) (fun _ h9 => h9) rfl (by decide +kernel) rfl rfl (Nat.le_of_ble_eq_true rfl) dX0_forgetReading_2 (fun H locs hP hD hS => ?_)
  have hP : va_P (dC, dI) vwCl [(h0, .inr (0, [.ref h1, .int (nI n), .ref h2, .ref h3, .int 0, .int (bI rd), .int fp])), (h1, .inl (cA, 1000, .inl tx)), (h2, .inl (cA, 1000, .inl ch)), (h3, .inl (cA, 1001, .inl pl))] H := hP
  have hD : va_D A [(h0, .inr (0, [.ref h1, .int (nI n), .ref h2, .ref h3, .int 0, .int (bI rd), .int fp])), (h1, .inl (cA, 1000, .inl tx)), (h2, .inl (cA, 1000, .inl ch)), (h3, .inl (cA, 1001, .inl pl))] := hD
  refine lv_aload_n hx hb dX0_forgetReading_5 rfl (lv_at hl 0 rfl) ?_
  refine lv_iconst (v := 0) hx hb dX0_forgetReading_6 (by decide) ?_
  refine va_put (D := (dC, dI)) (ci := 0) (v := .int 0) (ty := .boolean) (C := RX0) (T := TX0) (N := 7) hx hb hts hIn tyX0 tyX0_ok nmX0 hown hK hP hD hS 0 rfl rfl 5 (by decide) (hts (.fieldLink RX0 26 RX0 "hasReading" "Z") (by decide +kernel)) (fun _ h9 => h9) rfl (by decide +kernel) rfl rfl (Nat.le_of_ble_eq_true rfl) dX0_forgetReading_7 (fun H locs hP hD hS => ?_)
  have hP : va_P (dC, dI) vwCl [(h0, .inr (0, [.ref h1, .int (nI n), .ref h2, .ref h3, .int 0, .int 0, .int fp])), (h1, .inl (cA, 1000, .inl tx)), (h2, .inl (cA, 1000, .inl ch)), (h3, .inl (cA, 1001, .inl pl))] H := hP
  have hD : va_D A [(h0, .inr (0, [.ref h1, .int (nI n), .ref h2, .ref h3, .int 0, .int 0, .int fp])), (h1, .inl (cA, 1000, .inl tx)), (h2, .inl (cA, 1000, .inl ch)), (h3, .inl (cA, 1001, .inl pl))] := hD
  refine lv_aload_n hx hb dX0_forgetReading_10 rfl (lv_at hl 0 rfl) ?_
  refine lv_iconst (v := -1) hx hb dX0_forgetReading_11 (by decide) ?_
  refine lv_topi (fun x_1 ex_1 => ?_)
  refine va_put (D := (dC, dI)) (ci := 0) (v := .int x_1) (ty := .int) (C := RX0) (T := TX0) (N := 7) hx hb hts hIn tyX0 tyX0_ok nmX0 hown hK hP hD hS 0 rfl rfl 6 (by decide) (hts (.fieldLink RX0 30 RX0 "faultPlace" "I") (by decide +kernel)) (fun _ h9 => h9) rfl (by decide +kernel) rfl rfl (Nat.le_of_ble_eq_true rfl) dX0_forgetReading_12 (fun H locs hP hD hS => ?_)
  have hP : va_P (dC, dI) vwCl [(h0, .inr (0, [.ref h1, .int (nI n), .ref h2, .ref h3, .int 0, .int 0, .int x_1])), (h1, .inl (cA, 1000, .inl tx)), (h2, .inl (cA, 1000, .inl ch)), (h3, .inl (cA, 1001, .inl pl))] H := hP
  have hD : va_D A [(h0, .inr (0, [.ref h1, .int (nI n), .ref h2, .ref h3, .int 0, .int 0, .int x_1])), (h1, .inl (cA, 1000, .inl tx)), (h2, .inl (cA, 1000, .inl ch)), (h3, .inl (cA, 1001, .inl pl))] := hD
  have hP9 : va_P (dC, dI) vwCl (xw h0 h1 h2 h3 cA (tx, n, ch, pl, 0, false, x_1)) H := hP
  have hD9 : va_D A (xw h0 h1 h2 h3 cA (tx, n, ch, pl, 0, false, x_1)) := hD
  exact W.vret hx hb hr (fun t ht hW => ⟨⟨(tx, n, ch, pl, 0, false, x_1), rfl, rfl, by rw [ht]; exact hP9, va_K.moved hW.alike hK, hD9⟩, hS.F ht⟩) hS.2.2 dX0_forgetReading_15
set_option maxHeartbeats 4000000 in
set_option maxRecDepth 100000 in
theorem c_X0_keep (l : Launch) (dC : Nat → ClassId) (dI : Nat → Nat → Nat) (h0 h1 h2 h3 : Nat) (cA : ClassId) (t0 t1 t2 t3 : Nat) (sz : Nat) (tx : Nat → Int32) (n : Nat) (ch pl : Nat → Int32) (k : Nat) (rd : Bool) (fp : Int32) (v : Int32) (fr : Nat) (hk : k < 1000) : Met l yX0_keep wsX0_keep ({ frames := 0, cells := 0, slots := 0, locals := 0 }) (va_Pc [.ref h0, .int v, .int (nI fr)] (fun U => xmut dC dI h0 h1 h2 h3 cA t0 t1 t2 t3 sz (tx, n, ch, pl, k, rd, fp) U)) (va_Qv (fun u : XS => u = (tx, n, upd ch k v, upd pl k (nI fr), k + 1, rd, fp)) (xatt dC dI h0 h1 h2 h3 cA (va_A (xw h0 h1 h2 h3 cA (tx, n, ch, pl, k, rd, fp)) sz)) (va_A (xw h0 h1 h2 h3 cA (tx, n, ch, pl, k, rd, fp)) sz)) 0 0 (va_A (xw h0 h1 h2 h3 cA (tx, n, ch, pl, k, rd, fp)) sz) := by
  refine Met.ofW (cc := cX0_keep) (maxL := 3) (ret := none) (by decide) rfl ?_
  intro p e s m args below meth c s₁ B hml hv
  obtain ⟨rfl, hsz, hP, hK, hD0, hT⟩ := hv
  have hx := B.exec
  have hb := B.bytes
  have hr := B.returns
  have hts := atoms_spec (ws := wsX0_keep) B.pre
  have hown : s.vm.findClass RX0 = some m.cls := findClass_of_methodNamed B.named
  subst hsz
  have hD := hD0.self (sz := s.heap.size)
  generalize hAe : va_A (xw h0 h1 h2 h3 cA (tx, n, ch, pl, k, rd, fp)) s.heap.size = A at hD hT ⊢
  have hA : ∀ q : Nat, s.heap.size ≤ q → A q := fun q h => by rw [← hAe]; exact Or.inr h
  have hS : va_S A s.heap s.heap [] := va_S.rf
  have hP : va_P (dC, dI) vwCl [(h0, .inr (0, [.ref h1, .int (nI n), .ref h2, .ref h3, .int (nI k), .int (bI rd), .int fp])), (h1, .inl (cA, 1000, .inl tx)), (h2, .inl (cA, 1000, .inl ch)), (h3, .inl (cA, 1001, .inl pl))] s.heap := hP
  have hD : va_D A [(h0, .inr (0, [.ref h1, .int (nI n), .ref h2, .ref h3, .int (nI k), .int (bI rd), .int fp])), (h1, .inl (cA, 1000, .inl tx)), (h2, .inl (cA, 1000, .inl ch)), (h3, .inl (cA, 1001, .inl pl))] := hD
  have hIn : ∀ w ∈ wsX00, w ∈ wsX0_keep := by decide +kernel
  obtain ⟨hz0, ht0, hz1, ht1, hz2, ht2, hz3, ht3⟩ := id hT
  have hl := lv_entry ([.ref h0, .int v, .int (nI fr)]) (n := 3) (Nat.le_of_ble_eq_true rfl)
  rw [lg_entry_eq]
  generalize (lg_sl ([.ref h0, .int v, .int (nI fr)]) ++ List.replicate (3 - (lg_sl ([.ref h0, .int v, .int (nI fr)])).length) Slot.unset).toArray = ls at hl ⊢
  have hl : lv_has ls 3 [(0, .ref h0), (1, .int v), (2, .int (nI fr))] := hl
  refine lv_aload_n hx hb dX0_keep_0 rfl (lv_at hl 0 rfl) ?_
  refine va_get (D := (dC, dI)) (ci := 0) (v := .int (nI k)) (C := RX0) (T := TX0) (N := 7) hx hb hts hIn hown hK hP 0 rfl rfl 4 (by decide) (hts (.fieldLink RX0 23 RX0 "count" "I") (by decide +kernel)) (fun _ h9 => h9) rfl dX0_keep_1 ?_
  refine lv_sipush (v := 1000) hx hb dX0_keep_4 (by decide) ?_
  refine lv_icmp_ge (tgt := 40) hx hb dX0_keep_7 (by decide) (fun c_1 => ?_) (fun c_1 => ?_)
  · exact absurd (show nI 1000 ≤ nI k from c_1) (nI_ge (by omega) (by omega))
  · refine lv_aload_n hx hb dX0_keep_10 rfl (lv_at hl 0 rfl) ?_
    refine va_get (D := (dC, dI)) (ci := 0) (v := .ref h2) (C := RX0) (T := TX0) (N := 7) hx hb hts hIn hown hK hP 0 rfl rfl 2 (by decide) (hts (.fieldLink RX0 13 RX0 "characters" "[I") (by decide +kernel)) (fun _ h9 => h9) rfl dX0_keep_11 ?_
    refine lv_aload_n hx hb dX0_keep_14 rfl (lv_at hl 0 rfl) ?_
    refine va_get (D := (dC, dI)) (ci := 0) (v := .int (nI k)) (C := RX0) (T := TX0) (N := 7) hx hb hts hIn hown hK hP 0 rfl rfl 4 (by decide) (hts (.fieldLink RX0 23 RX0 "count" "I") (by decide +kernel)) (fun _ h9 => h9) rfl dX0_keep_15 ?_
    refine lv_iload_n hx hb dX0_keep_18 rfl (lv_at hl 1 rfl) ?_
    refine va_iast hx hb hK hP hD hS 2 0 rfl rfl (vp_in_nI (by omega) (by omega)) dX0_keep_19 (fun H locs hP hD hS => ?_)
    rw [nI_clamp (by omega)] at hP hD
    have hP : va_P (dC, dI) vwCl [(h0, .inr (0, [.ref h1, .int (nI n), .ref h2, .ref h3, .int (nI k), .int (bI rd), .int fp])), (h1, .inl (cA, 1000, .inl tx)), (h2, .inl (cA, 1000, .inl (upd ch k v))), (h3, .inl (cA, 1001, .inl pl))] H := hP
    have hD : va_D A [(h0, .inr (0, [.ref h1, .int (nI n), .ref h2, .ref h3, .int (nI k), .int (bI rd), .int fp])), (h1, .inl (cA, 1000, .inl tx)), (h2, .inl (cA, 1000, .inl (upd ch k v))), (h3, .inl (cA, 1001, .inl pl))] := hD
    refine lv_aload_n hx hb dX0_keep_20 rfl (lv_at hl 0 rfl) ?_
    refine va_get (D := (dC, dI)) (ci := 0) (v := .ref h3) (C := RX0) (T := TX0) (N := 7) hx hb hts hIn hown hK hP 0 rfl rfl 3 (by decide) (hts (.fieldLink RX0 16 RX0 "places" "[I") (by decide +kernel)) (fun _ h9 => h9) rfl dX0_keep_21 ?_
    refine lv_aload_n hx hb dX0_keep_24 rfl (lv_at hl 0 rfl) ?_
    refine va_get (D := (dC, dI)) (ci := 0) (v := .int (nI k)) (C := RX0) (T := TX0) (N := 7) hx hb hts hIn hown hK hP 0 rfl rfl 4 (by decide) (hts (.fieldLink RX0 23 RX0 "count" "I") (by decide +kernel)) (fun _ h9 => h9) rfl dX0_keep_25 ?_
    refine lv_iload_n hx hb dX0_keep_28 rfl (lv_at hl 2 rfl) ?_
    refine va_iast hx hb hK hP hD hS 3 0 rfl rfl (vp_in_nI (by omega) (by omega)) dX0_keep_29 (fun H locs hP hD hS => ?_)
    rw [nI_clamp (by omega)] at hP hD
    have hP : va_P (dC, dI) vwCl [(h0, .inr (0, [.ref h1, .int (nI n), .ref h2, .ref h3, .int (nI k), .int (bI rd), .int fp])), (h1, .inl (cA, 1000, .inl tx)), (h2, .inl (cA, 1000, .inl (upd ch k v))), (h3, .inl (cA, 1001, .inl (upd pl k (nI fr))))] H := hP
    have hD : va_D A [(h0, .inr (0, [.ref h1, .int (nI n), .ref h2, .ref h3, .int (nI k), .int (bI rd), .int fp])), (h1, .inl (cA, 1000, .inl tx)), (h2, .inl (cA, 1000, .inl (upd ch k v))), (h3, .inl (cA, 1001, .inl (upd pl k (nI fr))))] := hD
    refine lv_aload_n hx hb dX0_keep_30 rfl (lv_at hl 0 rfl) ?_
    refine lv_dup hx hb dX0_keep_31 rfl ?_
    refine va_get (D := (dC, dI)) (ci := 0) (v := .int (nI k)) (C := RX0) (T := TX0) (N := 7) hx hb hts hIn hown hK hP 0 rfl rfl 4 (by decide) (hts (.fieldLink RX0 23 RX0 "count" "I") (by decide +kernel)) (fun _ h9 => h9) rfl dX0_keep_32 ?_
    refine lv_iconst (v := 1) hx hb dX0_keep_35 (by decide) ?_
    refine lv_iadd hx hb dX0_keep_36 ?_
    refine lv_topi (fun x_2 ex_2 => ?_)
    obtain rfl : x_2 = nI (k + 1) := ex_2.trans (nI_1 _)
    refine va_put (D := (dC, dI)) (ci := 0) (v := .int (nI (k + 1))) (ty := .int) (C := RX0) (T := TX0) (N := 7) hx hb hts hIn tyX0 tyX0_ok nmX0 hown hK hP hD hS 0 rfl rfl 4 (by decide) (hts (.fieldLink RX0 23 RX0 "count" "I") (by decide +kernel)) (fun _ h9 => h9) rfl (by decide +kernel) rfl rfl (Nat.le_of_ble_eq_true rfl) dX0_keep_37 (fun H locs hP hD hS => ?_)
    have hP : va_P (dC, dI) vwCl [(h0, .inr (0, [.ref h1, .int (nI n), .ref h2, .ref h3, .int (nI (k + 1)), .int (bI rd), .int fp])), (h1, .inl (cA, 1000, .inl tx)), (h2, .inl (cA, 1000, .inl (upd ch k v))), (h3, .inl (cA, 1001, .inl (upd pl k (nI fr))))] H := hP
    have hD : va_D A [(h0, .inr (0, [.ref h1, .int (nI n), .ref h2, .ref h3, .int (nI (k + 1)), .int (bI rd), .int fp])), (h1, .inl (cA, 1000, .inl tx)), (h2, .inl (cA, 1000, .inl (upd ch k v))), (h3, .inl (cA, 1001, .inl (upd pl k (nI fr))))] := hD
    have hP9 : va_P (dC, dI) vwCl (xw h0 h1 h2 h3 cA (tx, n, (upd ch k v), (upd pl k (nI fr)), (k + 1), rd, fp)) H := hP
    have hD9 : va_D A (xw h0 h1 h2 h3 cA (tx, n, (upd ch k v), (upd pl k (nI fr)), (k + 1), rd, fp)) := hD
    exact W.vret hx hb hr (fun t ht hW => ⟨⟨(tx, n, (upd ch k v), (upd pl k (nI fr)), (k + 1), rd, fp), rfl, rfl, by rw [ht]; exact hP9, va_K.moved hW.alike hK, hD9⟩, hS.F ht⟩) hS.2.2 dX0_keep_40
set_option maxHeartbeats 4000000 in
set_option maxRecDepth 100000 in
theorem c_X0_put_no (l : Launch) (dC : Nat → ClassId) (dI : Nat → Nat → Nat) (h0 h1 h2 h3 : Nat) (cA : ClassId) (t0 t1 t2 t3 : Nat) (sz : Nat) (tx : Nat → Int32) (n : Nat) (ch pl : Nat → Int32) (k : Nat) (rd : Bool) (fp : Int32) (v : Int64) (q : Int32) (hno : xPutOk n q = false) : Met l yX0_put wsX0_put ({ frames := 1, cells := 0, slots := 0, locals := 21 }) (va_Pc [.ref h0, .long v, .int q] (fun U => xmut dC dI h0 h1 h2 h3 cA t0 t1 t2 t3 sz (tx, n, ch, pl, k, rd, fp) U)) (va_Qi (fun (r : Int32) (u : XS) => r = 0 ∧ u = (tx, n, ch, pl, k, rd, fp)) (xatt dC dI h0 h1 h2 h3 cA (va_A (xw h0 h1 h2 h3 cA (tx, n, ch, pl, k, rd, fp)) sz)) (va_A (xw h0 h1 h2 h3 cA (tx, n, ch, pl, k, rd, fp)) sz)) 0 0 (va_A (xw h0 h1 h2 h3 cA (tx, n, ch, pl, k, rd, fp)) sz) := by
  refine Met.ofW (cc := cX0_put) (maxL := 5) (ret := (some .boolean)) (by decide) rfl ?_
  intro p e s m args below meth c s₁ B hml hv
  obtain ⟨rfl, hsz, hP, hK, hD0, hT⟩ := hv
  have hx := B.exec
  have hb := B.bytes
  have hr := B.returns
  have hts := atoms_spec (ws := wsX0_put) B.pre
  have hown : s.vm.findClass RX0 = some m.cls := findClass_of_methodNamed B.named
  subst hsz
  have hD := hD0.self (sz := s.heap.size)
  generalize hAe : va_A (xw h0 h1 h2 h3 cA (tx, n, ch, pl, k, rd, fp)) s.heap.size = A at hD hT ⊢
  have hA : ∀ q : Nat, s.heap.size ≤ q → A q := fun q h => by rw [← hAe]; exact Or.inr h
  have hS : va_S A s.heap s.heap [] := va_S.rf
  have hP : va_P (dC, dI) vwCl [(h0, .inr (0, [.ref h1, .int (nI n), .ref h2, .ref h3, .int (nI k), .int (bI rd), .int fp])), (h1, .inl (cA, 1000, .inl tx)), (h2, .inl (cA, 1000, .inl ch)), (h3, .inl (cA, 1001, .inl pl))] s.heap := hP
  have hD : va_D A [(h0, .inr (0, [.ref h1, .int (nI n), .ref h2, .ref h3, .int (nI k), .int (bI rd), .int fp])), (h1, .inl (cA, 1000, .inl tx)), (h2, .inl (cA, 1000, .inl ch)), (h3, .inl (cA, 1001, .inl pl))] := hD
  have hIn : ∀ w ∈ wsX00, w ∈ wsX0_put := by decide +kernel
  obtain ⟨hz0, ht0, hz1, ht1, hz2, ht2, hz3, ht3⟩ := id hT
  have hl := lv_entry ([.ref h0, .long v, .int q]) (n := 5) (Nat.le_of_ble_eq_true rfl)
  rw [lg_entry_eq]
  generalize (lg_sl ([.ref h0, .long v, .int q]) ++ List.replicate (5 - (lg_sl ([.ref h0, .long v, .int q])).length) Slot.unset).toArray = ls at hl ⊢
  have hl : lv_has ls 5 [(0, .ref h0), (1, .long v), (3, .int q)] := hl
  refine lv_iload_n hx hb dX0_put_0 rfl (lv_at hl 2 rfl) ?_
  refine lv_iconst (v := 1) hx hb dX0_put_1 (by decide) ?_
  refine lv_icmp_lt (tgt := 19) hx hb dX0_put_2 (by decide) (fun c_1 => ?_) (fun c_1 => ?_)
  · refine lv_iconst (v := 0) hx hb dX0_put_19 (by decide) ?_
    have hP9 : va_P (dC, dI) vwCl (xw h0 h1 h2 h3 cA (tx, n, ch, pl, k, rd, fp)) s.heap := hP
    have hD9 : va_D A (xw h0 h1 h2 h3 cA (tx, n, ch, pl, k, rd, fp)) := hD
    exact W.zret (v := 0) (ty := .boolean) hx hb hr (rfl) (fun t ht hW => ⟨⟨0, (tx, n, ch, pl, k, rd, fp), rfl, ⟨rfl, rfl⟩, by rw [ht]; exact hP9, va_K.moved hW.alike hK, hD9⟩, hS.F ht⟩) hS.2.2 dX0_put_20
  · refine lv_iload_n hx hb dX0_put_5 rfl (lv_at hl 2 rfl) ?_
    refine lv_bipush (v := 8) hx hb dX0_put_6 (by decide) ?_
    refine lv_icmp_gt (tgt := 19) hx hb dX0_put_8 (by decide) (fun c_2 => ?_) (fun c_2 => ?_)
    · refine lv_iconst (v := 0) hx hb dX0_put_19 (by decide) ?_
      have hP9 : va_P (dC, dI) vwCl (xw h0 h1 h2 h3 cA (tx, n, ch, pl, k, rd, fp)) s.heap := hP
      have hD9 : va_D A (xw h0 h1 h2 h3 cA (tx, n, ch, pl, k, rd, fp)) := hD
      exact W.zret (v := 0) (ty := .boolean) hx hb hr (rfl) (fun t ht hW => ⟨⟨0, (tx, n, ch, pl, k, rd, fp), rfl, ⟨rfl, rfl⟩, by rw [ht]; exact hP9, va_K.moved hW.alike hK, hD9⟩, hS.F ht⟩) hS.2.2 dX0_put_20
    · refine lv_aload_n hx hb dX0_put_11 rfl (lv_at hl 0 rfl) ?_
      refine lv_iload_n hx hb dX0_put_12 rfl (lv_at hl 2 rfl) ?_
      refine vp_callSi (W.runV (As := [.int q]) (rest := []) ⟨hx, hb, hml, hown, hts⟩ (c_X0_hasRoomFor l dC dI h0 h1 h2 h3 cA t0 t1 t2 t3 tx n ch pl k rd fp q) (cwV 1 hts gX0_put_X0_hasRoomFor rfl rfl rfl (by decide +kernel) ⟨Nat.le_of_ble_eq_true rfl, Nat.le_of_ble_eq_true rfl⟩) ⟨xpre_blind, va_recv hK hP (ci := 0) (q0 := 0) rfl rfl, fun U hU hW => ⟨rfl, xpre_of hP hK hT hS hU hW⟩⟩ rfl rfl hl.1 rfl (lv_room (Nat.le_of_ble_eq_true rfl)) dX0_put_13 ⟨Nat.le_of_ble_eq_true rfl, Nat.le_of_ble_eq_true rfl⟩) (fun r_3 er_3 => ?_)
      obtain rfl : r_3 = bI (xRoom n q) := er_3
      refine lv_if_ne (tgt := 21) hx hb dX0_put_16 (by decide) (fun c_4 => ?_) (fun c_4 => ?_)
        have c_4 := bI_n0 c_4
      · exact absurd hno (by rw [xPutOk, if_neg c_1, if_neg c_2, bI_n0 c_4]; decide)
      · have c_4 := bI_0 c_4
        refine lv_iconst (v := 0) hx hb dX0_put_19 (by decide) ?_
        have hP9 : va_P (dC, dI) vwCl (xw h0 h1 h2 h3 cA (tx, n, ch, pl, k, rd, fp)) s.heap := hP
        have hD9 : va_D A (xw h0 h1 h2 h3 cA (tx, n, ch, pl, k, rd, fp)) := hD
        exact W.zret (v := 0) (ty := .boolean) hx hb hr (rfl) (fun t ht hW => ⟨⟨0, (tx, n, ch, pl, k, rd, fp), rfl, ⟨rfl, rfl⟩, by rw [ht]; exact hP9, va_K.moved hW.alike hK, hD9⟩, hS.F ht⟩) hS.2.2 dX0_put_20
set_option maxHeartbeats 4000000 in
set_option maxRecDepth 100000 in
theorem c_X0_put_ok (l : Launch) (dC : Nat → ClassId) (dI : Nat → Nat → Nat) (h0 h1 h2 h3 : Nat) (cA : ClassId) (t0 t1 t2 t3 : Nat) (sz : Nat) (tx : Nat → Int32) (n : Nat) (ch pl : Nat → Int32) (k : Nat) (rd : Bool) (fp : Int32) (v : Int64) (q : Nat) (h1q : 1 ≤ q) (hq8 : q ≤ 8) (hroom : n + q ≤ 1000) : Met l yX0_put wsX0_put ({ frames := 1, cells := 0, slots := 0, locals := 21 }) (va_Pc [.ref h0, .long v, .int (nI q)] (fun U => xmut dC dI h0 h1 h2 h3 cA t0 t1 t2 t3 sz (tx, n, ch, pl, k, rd, fp) U)) (va_Qi (fun (r : Int32) (u : XS) => r = 1 ∧ u = (putTx tx n (fun z => xPb v (q - 1 - z)) q, n + q, ch, pl, k, rd, fp)) (xatt dC dI h0 h1 h2 h3 cA (va_A (xw h0 h1 h2 h3 cA (tx, n, ch, pl, k, rd, fp)) sz)) (va_A (xw h0 h1 h2 h3 cA (tx, n, ch, pl, k, rd, fp)) sz)) 0 0 (va_A (xw h0 h1 h2 h3 cA (tx, n, ch, pl, k, rd, fp)) sz) := by
  refine Met.ofW (cc := cX0_put) (maxL := 5) (ret := (some .boolean)) (by decide) rfl ?_
  intro p e s m args below meth c s₁ B hml hv
  obtain ⟨rfl, hsz, hP, hK, hD0, hT⟩ := hv
  have hx := B.exec
  have hb := B.bytes
  have hr := B.returns
  have hts := atoms_spec (ws := wsX0_put) B.pre
  have hown : s.vm.findClass RX0 = some m.cls := findClass_of_methodNamed B.named
  subst hsz
  have hD := hD0.self (sz := s.heap.size)
  generalize hAe : va_A (xw h0 h1 h2 h3 cA (tx, n, ch, pl, k, rd, fp)) s.heap.size = A at hD hT ⊢
  have hA : ∀ q : Nat, s.heap.size ≤ q → A q := fun q h => by rw [← hAe]; exact Or.inr h
  have hS : va_S A s.heap s.heap [] := va_S.rf
  have hP : va_P (dC, dI) vwCl [(h0, .inr (0, [.ref h1, .int (nI n), .ref h2, .ref h3, .int (nI k), .int (bI rd), .int fp])), (h1, .inl (cA, 1000, .inl tx)), (h2, .inl (cA, 1000, .inl ch)), (h3, .inl (cA, 1001, .inl pl))] s.heap := hP
  have hD : va_D A [(h0, .inr (0, [.ref h1, .int (nI n), .ref h2, .ref h3, .int (nI k), .int (bI rd), .int fp])), (h1, .inl (cA, 1000, .inl tx)), (h2, .inl (cA, 1000, .inl ch)), (h3, .inl (cA, 1001, .inl pl))] := hD
  have hIn : ∀ w ∈ wsX00, w ∈ wsX0_put := by decide +kernel
  obtain ⟨hz0, ht0, hz1, ht1, hz2, ht2, hz3, ht3⟩ := id hT
  have hl := lv_entry ([.ref h0, .long v, .int (nI q)]) (n := 5) (Nat.le_of_ble_eq_true rfl)
  rw [lg_entry_eq]
  generalize (lg_sl ([.ref h0, .long v, .int (nI q)]) ++ List.replicate (5 - (lg_sl ([.ref h0, .long v, .int (nI q)])).length) Slot.unset).toArray = ls at hl ⊢
  have hl : lv_has ls 5 [(0, .ref h0), (1, .long v), (3, .int (nI q))] := hl
  have loop : ∀ (d i : Nat) (H : Heap) (locs : List Loc) (ls : Array Slot), i + d = q → va_P (dC, dI) vwCl [(h0, .inr (0, [.ref h1, .int (nI (n + i)), .ref h2, .ref h3, .int (nI k), .int (bI rd), .int fp])), (h1, .inl (cA, 1000, .inl (putTx tx n (fun z => xPb v (q - 1 - z)) i))), (h2, .inl (cA, 1000, .inl ch)), (h3, .inl (cA, 1001, .inl pl))] H → va_D A [(h0, .inr (0, [.ref h1, .int (nI (n + i)), .ref h2, .ref h3, .int (nI k), .int (bI rd), .int fp])), (h1, .inl (cA, 1000, .inl (putTx tx n (fun z => xPb v (q - 1 - z)) i))), (h2, .inl (cA, 1000, .inl ch)), (h3, .inl (cA, 1001, .inl pl))] → va_S A s.heap H locs → lv_has ls 5 [(4, .int (nI d + (-1))), (0, .ref h0), (1, .long v), (3, .int (nI q))] → W p l e (headSpec wsX0_put ({ frames := 1, cells := 0, slots := 0, locals := 21 })).room s m ([.ref h0, .long v, .int (nI q)] : List Value).toArray below meth c H locs 0 0 (MQ below (va_Qi (fun (r : Int32) (u : XS) => r = 1 ∧ u = (putTx tx n (fun z => xPb v (q - 1 - z)) q, n + q, ch, pl, k, rd, fp)) (xatt dC dI h0 h1 h2 h3 cA A) A) ([.ref h0, .long v, .int (nI q)] : List Value).toArray s 0 0 A) (F0 m 26 ls []) := by
    intro d
    induction d with
    | zero =>
      intro i H locs ls hid hP hD hS hl
      refine lv_iload hx hb dX0_put_26 (lv_at hl 0 rfl) ?_
      refine lv_if_lt (tgt := 53) hx hb dX0_put_28 (by decide) (fun c_1 => ?_) (fun c_1 => ?_)
      · refine lv_iconst (v := 1) hx hb dX0_put_53 (by decide) ?_
        have hP9 : va_P (dC, dI) vwCl (xw h0 h1 h2 h3 cA ((putTx tx n (fun z => xPb v (q - 1 - z)) i), (n + i), ch, pl, k, rd, fp)) H := hP
        have hD9 : va_D A (xw h0 h1 h2 h3 cA ((putTx tx n (fun z => xPb v (q - 1 - z)) i), (n + i), ch, pl, k, rd, fp)) := hD
        exact W.zret (v := 1) (ty := .boolean) hx hb hr (rfl) (fun t ht hW => ⟨⟨1, ((putTx tx n (fun z => xPb v (q - 1 - z)) i), (n + i), ch, pl, k, rd, fp), rfl, ⟨rfl, by rw [show i = q by omega]⟩, by rw [ht]; exact hP9, va_K.moved hW.alike hK, hD9⟩, hS.F ht⟩) hS.2.2 dX0_put_54
      · exact absurd (show nI 0 + (-1) < 0 by decide) c_1
    | succ d ih =>
      intro i H locs ls hid hP hD hS hl
      rw [pk_m1] at hl
      refine lv_iload hx hb dX0_put_26 (lv_at hl 0 rfl) ?_
      refine lv_if_lt (tgt := 53) hx hb dX0_put_28 (by decide) (fun c_2 => ?_) (fun c_2 => ?_)
      · exact absurd c_2 (nI_pos (by omega))
      · refine lv_aload_n hx hb dX0_put_31 rfl (lv_at hl 1 rfl) ?_
        refine lv_lload_n hx hb dX0_put_32 rfl (lv_at hl 2 rfl) ?_
        refine lv_bipush (v := 8) hx hb dX0_put_33 (by decide) ?_
        refine lv_iload hx hb dX0_put_35 (lv_at hl 0 rfl) ?_
        refine lv_imul hx hb dX0_put_37 ?_
        refine lv_lushr hx hb dX0_put_38 rfl ?_
        refine lv_l2i hx hb dX0_put_39 rfl ?_
        refine lv_sipush (v := 255) hx hb dX0_put_40 (by decide) ?_
        refine lv_iand hx hb dX0_put_43 ?_
        refine lv_topi (fun x_3 ex_3 => ?_)
        obtain rfl : x_3 = xPb v d := ex_3.trans rfl
        have hFc := va_free (wc := xw h0 h1 h2 h3 cA ((putTx tx n (fun z => xPb v (q - 1 - z)) i), (n + i), ch, pl, k, rd, fp)) hD hS hA [0, 1, 2, 3] rfl
        refine va_callv (va_runV (As := [.int (xPb v d)]) (rest := []) ⟨hx, hb, hml, hown, hts⟩ (c_X0_append l dC dI h0 h1 h2 h3 cA t0 t1 t2 t3 H.size (putTx tx n (fun z => xPb v (q - 1 - z)) i) (n + i) ch pl k rd fp (xPb v d) (by omega)) (cwV 1 hts gX0_put_X0_append rfl rfl rfl (by decide +kernel) ⟨Nat.le_of_ble_eq_true rfl, Nat.le_of_ble_eq_true rfl⟩) ⟨xmut_blind, va_recv hK hP (ci := 0) (q0 := 0) rfl rfl, fun U hU hW => ⟨rfl, xmut_of hP hK hD hT hS hFc hU hW⟩⟩ rfl rfl hl.1 rfl (lv_room (Nat.le_of_ble_eq_true rfl)) dX0_put_44 ⟨Nat.le_of_ble_eq_true rfl, Nat.le_of_ble_eq_true rfl⟩) hS (fun q _ h => hFc q h) hFc (fun u_4 t_4 H1 locs ht hvm hw hB hz1 hk1 hS => ?_)
        obtain rfl : u_4 = ((upd (putTx tx n (fun z => xPb v (q - 1 - z)) i) (n + i) (xPb v d)), ((n + i) + 1), ch, pl, k, rd, fp) := hw
        obtain ⟨hP1, hK1, hD1⟩ := hB
        rw [ht] at hP1
        obtain ⟨hP, hD⟩ := va_join (wr := []) (w1 := xw h0 h1 h2 h3 cA ((upd (putTx tx n (fun z => xPb v (q - 1 - z)) i) (n + i) (xPb v d)), ((n + i) + 1), ch, pl, k, rd, fp)) hP hD [0, 1, 2, 3] [] rfl rfl (by decide) (by decide) hk1 hFc hP1 hD1
        generalize H1 = H at hP hS ⊢
        have hP : va_P (dC, dI) vwCl [(h0, .inr (0, [.ref h1, .int (nI ((n + i) + 1)), .ref h2, .ref h3, .int (nI k), .int (bI rd), .int fp])), (h1, .inl (cA, 1000, .inl (upd (putTx tx n (fun z => xPb v (q - 1 - z)) i) (n + i) (xPb v d)))), (h2, .inl (cA, 1000, .inl ch)), (h3, .inl (cA, 1001, .inl pl))] H := hP
        have hD : va_D A [(h0, .inr (0, [.ref h1, .int (nI ((n + i) + 1)), .ref h2, .ref h3, .int (nI k), .int (bI rd), .int fp])), (h1, .inl (cA, 1000, .inl (upd (putTx tx n (fun z => xPb v (q - 1 - z)) i) (n + i) (xPb v d)))), (h2, .inl (cA, 1000, .inl ch)), (h3, .inl (cA, 1001, .inl pl))] := hD
        refine lv_iinc (v := nI d + (-1)) (lv' := [(4, .int (nI d + (-1))), (0, .ref h0), (1, .long v), (3, .int (nI q))]) hx hb dX0_put_47 hl (k := 0) rfl rfl (by decide) rfl (fun ls hl => ?_)
        refine lv_goto (tgt := 26) hx hb dX0_put_50 (by decide) ?_
        have hput : upd (putTx tx n (fun z => xPb v (q - 1 - z)) i) (n + i) (xPb v d) = putTx tx n (fun z => xPb v (q - 1 - z)) (i + 1) := by rw [putTx, show q - 1 - i = d by omega]
        rw [hput] at hP hD
        exact ih (i + 1) H locs ls (by omega) hP hD hS (lv_sub hl [0, 1, 2, 3] rfl)
  refine lv_iload_n hx hb dX0_put_0 rfl (lv_at hl 2 rfl) ?_
  refine lv_iconst (v := 1) hx hb dX0_put_1 (by decide) ?_
  refine lv_icmp_lt (tgt := 19) hx hb dX0_put_2 (by decide) (fun c_5 => ?_) (fun c_5 => ?_)
  · exact absurd (show nI q < nI 1 from c_5) (nI_nlt (by omega) (by omega))
  · refine lv_iload_n hx hb dX0_put_5 rfl (lv_at hl 2 rfl) ?_
    refine lv_bipush (v := 8) hx hb dX0_put_6 (by decide) ?_
    refine lv_icmp_gt (tgt := 19) hx hb dX0_put_8 (by decide) (fun c_6 => ?_) (fun c_6 => ?_)
    · exact absurd (show nI 8 < nI q from c_6) (nI_nlt (by omega) (by omega))
    · refine lv_aload_n hx hb dX0_put_11 rfl (lv_at hl 0 rfl) ?_
      refine lv_iload_n hx hb dX0_put_12 rfl (lv_at hl 2 rfl) ?_
      refine vp_callSi (W.runV (As := [.int (nI q)]) (rest := []) ⟨hx, hb, hml, hown, hts⟩ (c_X0_hasRoomFor l dC dI h0 h1 h2 h3 cA t0 t1 t2 t3 tx n ch pl k rd fp (nI q)) (cwV 1 hts gX0_put_X0_hasRoomFor rfl rfl rfl (by decide +kernel) ⟨Nat.le_of_ble_eq_true rfl, Nat.le_of_ble_eq_true rfl⟩) ⟨xpre_blind, va_recv hK hP (ci := 0) (q0 := 0) rfl rfl, fun U hU hW => ⟨rfl, xpre_of hP hK hT hS hU hW⟩⟩ rfl rfl hl.1 rfl (lv_room (Nat.le_of_ble_eq_true rfl)) dX0_put_13 ⟨Nat.le_of_ble_eq_true rfl, Nat.le_of_ble_eq_true rfl⟩) (fun r_7 er_7 => ?_)
      obtain rfl : r_7 = bI (xRoom n (nI q)) := er_7
      refine lv_if_ne (tgt := 21) hx hb dX0_put_16 (by decide) (fun c_8 => ?_) (fun c_8 => ?_)
      · have c_8 := bI_n0 c_8
        refine lv_iload_n hx hb dX0_put_21 rfl (lv_at hl 2 rfl) ?_
        refine lv_iconst (v := 1) hx hb dX0_put_22 (by decide) ?_
        refine lv_isub hx hb dX0_put_23 ?_
        refine lv_topi (fun x_9 ex_9 => ?_)
        obtain rfl : x_9 = nI q + (-1) := ex_9.trans ((pk_sub (b := 1) (by omega)).trans (sb_m1 (by omega)).symm)
        refine lv_topi (fun x_10 ex_10 => ?_)
        refine lv_istore (lv' := [(4, .int x_10), (0, .ref h0), (1, .long v), (3, .int (nI q))]) hx hb dX0_put_24 hl (by decide) rfl (fun ls hl => ?_)
        exact loop q 0 s.heap [] ls (by omega) hP hD hS (lv_sub hl [0, 1, 2, 3] rfl)
        have c_8 := bI_0 c_8
      · exact absurd (xRoom_ok hroom) (bI_0 c_8)
set_option maxHeartbeats 4000000 in
set_option maxRecDepth 100000 in
theorem c_X0_character_no (l : Launch) (dC : Nat → ClassId) (dI : Nat → Nat → Nat) (h0 h1 h2 h3 : Nat) (cA : ClassId) (t0 t1 t2 t3 : Nat) (sz : Nat) (tx : Nat → Int32) (n : Nat) (ch pl : Nat → Int32) (k : Nat) (rd : Bool) (fp : Int32) (v : Int32) (hno : xChOk n v = false) : Met l yX0_character wsX0_character ({ frames := 2, cells := 0, slots := 0, locals := 43 }) (va_Pc [.ref h0, .int v] (fun U => xmut dC dI h0 h1 h2 h3 cA t0 t1 t2 t3 sz (tx, n, ch, pl, k, rd, fp) U)) (va_Qi (fun (r : Int32) (u : XS) => r = 0 ∧ u = (tx, n, ch, pl, k, rd, fp)) (xatt dC dI h0 h1 h2 h3 cA (va_A (xw h0 h1 h2 h3 cA (tx, n, ch, pl, k, rd, fp)) sz)) (va_A (xw h0 h1 h2 h3 cA (tx, n, ch, pl, k, rd, fp)) sz)) 0 0 (va_A (xw h0 h1 h2 h3 cA (tx, n, ch, pl, k, rd, fp)) sz) := by
  refine Met.ofW (cc := cX0_character) (maxL := 4) (ret := (some .boolean)) (by decide) rfl ?_
  intro p e s m args below meth c s₁ B hml hv
  obtain ⟨rfl, hsz, hP, hK, hD0, hT⟩ := hv
  have hx := B.exec
  have hb := B.bytes
  have hr := B.returns
  have hts := atoms_spec (ws := wsX0_character) B.pre
  have hown : s.vm.findClass RX0 = some m.cls := findClass_of_methodNamed B.named
  subst hsz
  have hD := hD0.self (sz := s.heap.size)
  generalize hAe : va_A (xw h0 h1 h2 h3 cA (tx, n, ch, pl, k, rd, fp)) s.heap.size = A at hD hT ⊢
  have hA : ∀ q : Nat, s.heap.size ≤ q → A q := fun q h => by rw [← hAe]; exact Or.inr h
  have hS : va_S A s.heap s.heap [] := va_S.rf
  have hP : va_P (dC, dI) vwCl [(h0, .inr (0, [.ref h1, .int (nI n), .ref h2, .ref h3, .int (nI k), .int (bI rd), .int fp])), (h1, .inl (cA, 1000, .inl tx)), (h2, .inl (cA, 1000, .inl ch)), (h3, .inl (cA, 1001, .inl pl))] s.heap := hP
  have hD : va_D A [(h0, .inr (0, [.ref h1, .int (nI n), .ref h2, .ref h3, .int (nI k), .int (bI rd), .int fp])), (h1, .inl (cA, 1000, .inl tx)), (h2, .inl (cA, 1000, .inl ch)), (h3, .inl (cA, 1001, .inl pl))] := hD
  have hIn : ∀ w ∈ wsX00, w ∈ wsX0_character := by decide +kernel
  obtain ⟨hz0, ht0, hz1, ht1, hz2, ht2, hz3, ht3⟩ := id hT
  have hl := lv_entry ([.ref h0, .int v]) (n := 4) (Nat.le_of_ble_eq_true rfl)
  rw [lg_entry_eq]
  generalize (lg_sl ([.ref h0, .int v]) ++ List.replicate (4 - (lg_sl ([.ref h0, .int v])).length) Slot.unset).toArray = ls at hl ⊢
  have hl : lv_has ls 4 [(0, .ref h0), (1, .int v)] := hl
  refine lv_iload_n hx hb dX0_character_0 rfl (lv_at hl 1 rfl) ?_
  refine vp_callSi (W.runS (As := [.int v]) (rest := []) ⟨hx, hb, hml, hown, hts⟩ (c_X0_widthOf l v) (va_cwS 1 hts gX0_character_X0_widthOf rfl rfl rfl (by decide +kernel) ⟨Nat.le_of_ble_eq_true rfl, Nat.le_of_ble_eq_true rfl⟩) ⟨fun _ _ _ _ q => q, fun U hU hW => ⟨rfl, trivial⟩⟩ rfl rfl hl.1 rfl (lv_room (Nat.le_of_ble_eq_true rfl)) dX0_character_1 ⟨Nat.le_of_ble_eq_true rfl, Nat.le_of_ble_eq_true rfl⟩) (fun r_1 er_1 => ?_)
  obtain rfl : r_1 = xWidth v := er_1
  refine lv_istore_n (lv' := [(2, .int (xWidth v)), (0, .ref h0), (1, .int v)]) hx hb dX0_character_4 rfl hl (by decide) rfl (fun ls hl => ?_)
  refine lv_iload_n hx hb dX0_character_5 rfl (lv_at hl 0 rfl) ?_
  refine lv_if_eq (tgt := 17) hx hb dX0_character_6 (by decide) (fun c_2 => ?_) (fun c_2 => ?_)
  · refine lv_iconst (v := 0) hx hb dX0_character_17 (by decide) ?_
    have hP9 : va_P (dC, dI) vwCl (xw h0 h1 h2 h3 cA (tx, n, ch, pl, k, rd, fp)) s.heap := hP
    have hD9 : va_D A (xw h0 h1 h2 h3 cA (tx, n, ch, pl, k, rd, fp)) := hD
    exact W.zret (v := 0) (ty := .boolean) hx hb hr (rfl) (fun t ht hW => ⟨⟨0, (tx, n, ch, pl, k, rd, fp), rfl, ⟨rfl, rfl⟩, by rw [ht]; exact hP9, va_K.moved hW.alike hK, hD9⟩, hS.F ht⟩) hS.2.2 dX0_character_18
  · refine lv_aload_n hx hb dX0_character_9 rfl (lv_at hl 1 rfl) ?_
    refine lv_iload_n hx hb dX0_character_10 rfl (lv_at hl 0 rfl) ?_
    refine vp_callSi (W.runV (As := [.int (xWidth v)]) (rest := []) ⟨hx, hb, hml, hown, hts⟩ (c_X0_hasRoomFor l dC dI h0 h1 h2 h3 cA t0 t1 t2 t3 tx n ch pl k rd fp (xWidth v)) (cwV 1 hts gX0_character_X0_hasRoomFor rfl rfl rfl (by decide +kernel) ⟨Nat.le_of_ble_eq_true rfl, Nat.le_of_ble_eq_true rfl⟩) ⟨xpre_blind, va_recv hK hP (ci := 0) (q0 := 0) rfl rfl, fun U hU hW => ⟨rfl, xpre_of hP hK hT hS hU hW⟩⟩ rfl rfl hl.1 rfl (lv_room (Nat.le_of_ble_eq_true rfl)) dX0_character_11 ⟨Nat.le_of_ble_eq_true rfl, Nat.le_of_ble_eq_true rfl⟩) (fun r_3 er_3 => ?_)
    obtain rfl : r_3 = bI (xRoom n (xWidth v)) := er_3
    refine lv_if_ne (tgt := 19) hx hb dX0_character_14 (by decide) (fun c_4 => ?_) (fun c_4 => ?_)
      have c_4 := bI_n0 c_4
    · exact absurd hno (by rw [xChOk, if_neg c_2, bI_n0 c_4]; decide)
    · have c_4 := bI_0 c_4
      refine lv_iconst (v := 0) hx hb dX0_character_17 (by decide) ?_
      have hP9 : va_P (dC, dI) vwCl (xw h0 h1 h2 h3 cA (tx, n, ch, pl, k, rd, fp)) s.heap := hP
      have hD9 : va_D A (xw h0 h1 h2 h3 cA (tx, n, ch, pl, k, rd, fp)) := hD
      exact W.zret (v := 0) (ty := .boolean) hx hb hr (rfl) (fun t ht hW => ⟨⟨0, (tx, n, ch, pl, k, rd, fp), rfl, ⟨rfl, rfl⟩, by rw [ht]; exact hP9, va_K.moved hW.alike hK, hD9⟩, hS.F ht⟩) hS.2.2 dX0_character_18
set_option maxHeartbeats 4000000 in
set_option maxRecDepth 100000 in
theorem c_X0_character_ok (l : Launch) (dC : Nat → ClassId) (dI : Nat → Nat → Nat) (h0 h1 h2 h3 : Nat) (cA : ClassId) (t0 t1 t2 t3 : Nat) (sz : Nat) (tx : Nat → Int32) (n : Nat) (ch pl : Nat → Int32) (k : Nat) (rd : Bool) (fp : Int32) (v : Int32) (q : Nat) (hw : xWidth v = nI q) (h1q : 1 ≤ q) (hq4 : q ≤ 4) (hroom : n + q ≤ 1000) : Met l yX0_character wsX0_character ({ frames := 2, cells := 0, slots := 0, locals := 43 }) (va_Pc [.ref h0, .int v] (fun U => xmut dC dI h0 h1 h2 h3 cA t0 t1 t2 t3 sz (tx, n, ch, pl, k, rd, fp) U)) (va_Qi (fun (r : Int32) (u : XS) => r = 1 ∧ u = (putTx tx n (fun z => xEnc v (nI q) (nI z)) q, n + q, ch, pl, k, rd, fp)) (xatt dC dI h0 h1 h2 h3 cA (va_A (xw h0 h1 h2 h3 cA (tx, n, ch, pl, k, rd, fp)) sz)) (va_A (xw h0 h1 h2 h3 cA (tx, n, ch, pl, k, rd, fp)) sz)) 0 0 (va_A (xw h0 h1 h2 h3 cA (tx, n, ch, pl, k, rd, fp)) sz) := by
  refine Met.ofW (cc := cX0_character) (maxL := 4) (ret := (some .boolean)) (by decide) rfl ?_
  intro p e s m args below meth c s₁ B hml hv
  obtain ⟨rfl, hsz, hP, hK, hD0, hT⟩ := hv
  have hx := B.exec
  have hb := B.bytes
  have hr := B.returns
  have hts := atoms_spec (ws := wsX0_character) B.pre
  have hown : s.vm.findClass RX0 = some m.cls := findClass_of_methodNamed B.named
  subst hsz
  have hD := hD0.self (sz := s.heap.size)
  generalize hAe : va_A (xw h0 h1 h2 h3 cA (tx, n, ch, pl, k, rd, fp)) s.heap.size = A at hD hT ⊢
  have hA : ∀ q : Nat, s.heap.size ≤ q → A q := fun q h => by rw [← hAe]; exact Or.inr h
  have hS : va_S A s.heap s.heap [] := va_S.rf
  have hP : va_P (dC, dI) vwCl [(h0, .inr (0, [.ref h1, .int (nI n), .ref h2, .ref h3, .int (nI k), .int (bI rd), .int fp])), (h1, .inl (cA, 1000, .inl tx)), (h2, .inl (cA, 1000, .inl ch)), (h3, .inl (cA, 1001, .inl pl))] s.heap := hP
  have hD : va_D A [(h0, .inr (0, [.ref h1, .int (nI n), .ref h2, .ref h3, .int (nI k), .int (bI rd), .int fp])), (h1, .inl (cA, 1000, .inl tx)), (h2, .inl (cA, 1000, .inl ch)), (h3, .inl (cA, 1001, .inl pl))] := hD
  have hIn : ∀ w ∈ wsX00, w ∈ wsX0_character := by decide +kernel
  obtain ⟨hz0, ht0, hz1, ht1, hz2, ht2, hz3, ht3⟩ := id hT
  have hl := lv_entry ([.ref h0, .int v]) (n := 4) (Nat.le_of_ble_eq_true rfl)
  rw [lg_entry_eq]
  generalize (lg_sl ([.ref h0, .int v]) ++ List.replicate (4 - (lg_sl ([.ref h0, .int v])).length) Slot.unset).toArray = ls at hl ⊢
  have hl : lv_has ls 4 [(0, .ref h0), (1, .int v)] := hl
  have loop : ∀ (d i : Nat) (H : Heap) (locs : List Loc) (ls : Array Slot), i + d = q → va_P (dC, dI) vwCl [(h0, .inr (0, [.ref h1, .int (nI (n + i)), .ref h2, .ref h3, .int (nI k), .int (bI rd), .int fp])), (h1, .inl (cA, 1000, .inl (putTx tx n (fun z => xEnc v (nI q) (nI z)) i))), (h2, .inl (cA, 1000, .inl ch)), (h3, .inl (cA, 1001, .inl pl))] H → va_D A [(h0, .inr (0, [.ref h1, .int (nI (n + i)), .ref h2, .ref h3, .int (nI k), .int (bI rd), .int fp])), (h1, .inl (cA, 1000, .inl (putTx tx n (fun z => xEnc v (nI q) (nI z)) i))), (h2, .inl (cA, 1000, .inl ch)), (h3, .inl (cA, 1001, .inl pl))] → va_S A s.heap H locs → lv_has ls 4 [(3, .int (nI i)), (2, .int (nI q)), (0, .ref h0), (1, .int v)] → W p l e (headSpec wsX0_character ({ frames := 2, cells := 0, slots := 0, locals := 43 })).room s m ([.ref h0, .int v] : List Value).toArray below meth c H locs 0 0 (MQ below (va_Qi (fun (r : Int32) (u : XS) => r = 1 ∧ u = (putTx tx n (fun z => xEnc v (nI q) (nI z)) q, n + q, ch, pl, k, rd, fp)) (xatt dC dI h0 h1 h2 h3 cA A) A) ([.ref h0, .int v] : List Value).toArray s 0 0 A) (F0 m 21 ls []) := by
    intro d
    induction d with
    | zero =>
      intro i H locs ls hid hP hD hS hl
      refine lv_iload_n hx hb dX0_character_21 rfl (lv_at hl 0 rfl) ?_
      refine lv_iload_n hx hb dX0_character_22 rfl (lv_at hl 1 rfl) ?_
      refine lv_icmp_ge (tgt := 42) hx hb dX0_character_23 (by decide) (fun c_1 => ?_) (fun c_1 => ?_)
      · refine lv_iconst (v := 1) hx hb dX0_character_42 (by decide) ?_
        have hP9 : va_P (dC, dI) vwCl (xw h0 h1 h2 h3 cA ((putTx tx n (fun z => xEnc v (nI q) (nI z)) i), (n + i), ch, pl, k, rd, fp)) H := hP
        have hD9 : va_D A (xw h0 h1 h2 h3 cA ((putTx tx n (fun z => xEnc v (nI q) (nI z)) i), (n + i), ch, pl, k, rd, fp)) := hD
        exact W.zret (v := 1) (ty := .boolean) hx hb hr (rfl) (fun t ht hW => ⟨⟨1, ((putTx tx n (fun z => xEnc v (nI q) (nI z)) i), (n + i), ch, pl, k, rd, fp), rfl, ⟨rfl, by rw [show i = q by omega]⟩, by rw [ht]; exact hP9, va_K.moved hW.alike hK, hD9⟩, hS.F ht⟩) hS.2.2 dX0_character_43
      · exact absurd (nI_le (by omega) (by omega)) c_1
    | succ d ih =>
      intro i H locs ls hid hP hD hS hl
      refine lv_iload_n hx hb dX0_character_21 rfl (lv_at hl 0 rfl) ?_
      refine lv_iload_n hx hb dX0_character_22 rfl (lv_at hl 1 rfl) ?_
      refine lv_icmp_ge (tgt := 42) hx hb dX0_character_23 (by decide) (fun c_2 => ?_) (fun c_2 => ?_)
      · exact absurd c_2 (nI_ge (by omega) (by omega))
      · refine lv_aload_n hx hb dX0_character_26 rfl (lv_at hl 2 rfl) ?_
        refine lv_iload_n hx hb dX0_character_27 rfl (lv_at hl 3 rfl) ?_
        refine lv_iload_n hx hb dX0_character_28 rfl (lv_at hl 1 rfl) ?_
        refine lv_iload_n hx hb dX0_character_29 rfl (lv_at hl 0 rfl) ?_
        refine vp_callSi (W.runS (As := [.int v, .int (nI q), .int (nI i)]) (rest := [.ref h0]) ⟨hx, hb, hml, hown, hts⟩ (c_X0_encodedByte l v (nI q) (nI i)) (va_cwS 3 hts gX0_character_X0_encodedByte rfl rfl rfl (by decide +kernel) ⟨Nat.le_of_ble_eq_true rfl, Nat.le_of_ble_eq_true rfl⟩) ⟨fun _ _ _ _ q => q, fun U hU hW => ⟨rfl, trivial⟩⟩ rfl rfl hl.1 rfl (lv_room (Nat.le_of_ble_eq_true rfl)) dX0_character_30 ⟨Nat.le_of_ble_eq_true rfl, Nat.le_of_ble_eq_true rfl⟩) (fun r_3 er_3 => ?_)
        obtain rfl : r_3 = xEnc v (nI q) (nI i) := er_3
        have hFc := va_free (wc := xw h0 h1 h2 h3 cA ((putTx tx n (fun z => xEnc v (nI q) (nI z)) i), (n + i), ch, pl, k, rd, fp)) hD hS hA [0, 1, 2, 3] rfl
        refine va_callv (va_runV (As := [.int (xEnc v (nI q) (nI i))]) (rest := []) ⟨hx, hb, hml, hown, hts⟩ (c_X0_append l dC dI h0 h1 h2 h3 cA t0 t1 t2 t3 H.size (putTx tx n (fun z => xEnc v (nI q) (nI z)) i) (n + i) ch pl k rd fp (xEnc v (nI q) (nI i)) (by omega)) (cwV 1 hts gX0_character_X0_append rfl rfl rfl (by decide +kernel) ⟨Nat.le_of_ble_eq_true rfl, Nat.le_of_ble_eq_true rfl⟩) ⟨xmut_blind, va_recv hK hP (ci := 0) (q0 := 0) rfl rfl, fun U hU hW => ⟨rfl, xmut_of hP hK hD hT hS hFc hU hW⟩⟩ rfl rfl hl.1 rfl (lv_room (Nat.le_of_ble_eq_true rfl)) dX0_character_33 ⟨Nat.le_of_ble_eq_true rfl, Nat.le_of_ble_eq_true rfl⟩) hS (fun q _ h => hFc q h) hFc (fun u_4 t_4 H1 locs ht hvm hw hB hz1 hk1 hS => ?_)
        obtain rfl : u_4 = ((upd (putTx tx n (fun z => xEnc v (nI q) (nI z)) i) (n + i) (xEnc v (nI q) (nI i))), ((n + i) + 1), ch, pl, k, rd, fp) := hw
        obtain ⟨hP1, hK1, hD1⟩ := hB
        rw [ht] at hP1
        obtain ⟨hP, hD⟩ := va_join (wr := []) (w1 := xw h0 h1 h2 h3 cA ((upd (putTx tx n (fun z => xEnc v (nI q) (nI z)) i) (n + i) (xEnc v (nI q) (nI i))), ((n + i) + 1), ch, pl, k, rd, fp)) hP hD [0, 1, 2, 3] [] rfl rfl (by decide) (by decide) hk1 hFc hP1 hD1
        generalize H1 = H at hP hS ⊢
        have hP : va_P (dC, dI) vwCl [(h0, .inr (0, [.ref h1, .int (nI ((n + i) + 1)), .ref h2, .ref h3, .int (nI k), .int (bI rd), .int fp])), (h1, .inl (cA, 1000, .inl (upd (putTx tx n (fun z => xEnc v (nI q) (nI z)) i) (n + i) (xEnc v (nI q) (nI i))))), (h2, .inl (cA, 1000, .inl ch)), (h3, .inl (cA, 1001, .inl pl))] H := hP
        have hD : va_D A [(h0, .inr (0, [.ref h1, .int (nI ((n + i) + 1)), .ref h2, .ref h3, .int (nI k), .int (bI rd), .int fp])), (h1, .inl (cA, 1000, .inl (upd (putTx tx n (fun z => xEnc v (nI q) (nI z)) i) (n + i) (xEnc v (nI q) (nI i))))), (h2, .inl (cA, 1000, .inl ch)), (h3, .inl (cA, 1001, .inl pl))] := hD
        refine lv_iinc (v := nI (i + 1)) (lv' := [(3, .int (nI (i + 1))), (2, .int (nI q)), (0, .ref h0), (1, .int v)]) hx hb dX0_character_36 hl (k := 0) rfl (nI_1 _) (by decide) rfl (fun ls hl => ?_)
        refine lv_goto (tgt := 21) hx hb dX0_character_39 (by decide) ?_
        exact ih (i + 1) H locs ls (by omega) hP hD hS (lv_sub hl [0, 1, 2, 3] rfl)
  refine lv_iload_n hx hb dX0_character_0 rfl (lv_at hl 1 rfl) ?_
  refine vp_callSi (W.runS (As := [.int v]) (rest := []) ⟨hx, hb, hml, hown, hts⟩ (c_X0_widthOf l v) (va_cwS 1 hts gX0_character_X0_widthOf rfl rfl rfl (by decide +kernel) ⟨Nat.le_of_ble_eq_true rfl, Nat.le_of_ble_eq_true rfl⟩) ⟨fun _ _ _ _ q => q, fun U hU hW => ⟨rfl, trivial⟩⟩ rfl rfl hl.1 rfl (lv_room (Nat.le_of_ble_eq_true rfl)) dX0_character_1 ⟨Nat.le_of_ble_eq_true rfl, Nat.le_of_ble_eq_true rfl⟩) (fun r_5 er_5 => ?_)
  obtain rfl : r_5 = xWidth v := er_5
  rw [hw]
  refine lv_istore_n (lv' := [(2, .int (nI q)), (0, .ref h0), (1, .int v)]) hx hb dX0_character_4 rfl hl (by decide) rfl (fun ls hl => ?_)
  refine lv_iload_n hx hb dX0_character_5 rfl (lv_at hl 0 rfl) ?_
  refine lv_if_eq (tgt := 17) hx hb dX0_character_6 (by decide) (fun c_6 => ?_) (fun c_6 => ?_)
  · exact absurd c_6 (nI_ne0 (by omega) (by omega))
  · refine lv_aload_n hx hb dX0_character_9 rfl (lv_at hl 1 rfl) ?_
    refine lv_iload_n hx hb dX0_character_10 rfl (lv_at hl 0 rfl) ?_
    refine vp_callSi (W.runV (As := [.int (nI q)]) (rest := []) ⟨hx, hb, hml, hown, hts⟩ (c_X0_hasRoomFor l dC dI h0 h1 h2 h3 cA t0 t1 t2 t3 tx n ch pl k rd fp (nI q)) (cwV 1 hts gX0_character_X0_hasRoomFor rfl rfl rfl (by decide +kernel) ⟨Nat.le_of_ble_eq_true rfl, Nat.le_of_ble_eq_true rfl⟩) ⟨xpre_blind, va_recv hK hP (ci := 0) (q0 := 0) rfl rfl, fun U hU hW => ⟨rfl, xpre_of hP hK hT hS hU hW⟩⟩ rfl rfl hl.1 rfl (lv_room (Nat.le_of_ble_eq_true rfl)) dX0_character_11 ⟨Nat.le_of_ble_eq_true rfl, Nat.le_of_ble_eq_true rfl⟩) (fun r_7 er_7 => ?_)
    obtain rfl : r_7 = bI (xRoom n (nI q)) := er_7
    refine lv_if_ne (tgt := 19) hx hb dX0_character_14 (by decide) (fun c_8 => ?_) (fun c_8 => ?_)
    · have c_8 := bI_n0 c_8
      refine lv_iconst (v := 0) hx hb dX0_character_19 (by decide) ?_
      refine lv_istore_n (lv' := [(3, .int 0), (2, .int (nI q)), (0, .ref h0), (1, .int v)]) hx hb dX0_character_20 rfl hl (by decide) rfl (fun ls hl => ?_)
      exact loop q 0 s.heap [] ls (by omega) hP hD hS (lv_sub hl [0, 1, 2, 3] rfl)
      have c_8 := bI_0 c_8
    · exact absurd (xRoom_ok hroom) (bI_0 c_8)
set_option maxHeartbeats 4000000 in
set_option maxRecDepth 100000 in
theorem c_X0_readText (l : Launch) (dC : Nat → ClassId) (dI : Nat → Nat → Nat) (h0 h1 h2 h3 : Nat) (cA : ClassId) (t0 t1 t2 t3 : Nat) (sz : Nat) (tx : Nat → Int32) (n : Nat) (ch pl : Nat → Int32) (k : Nat) (rd : Bool) (fp : Int32) (hn : n ≤ 1000) (hk0 : k = 0) : Met l yX0_readText wsX0_readText ({ frames := 2, cells := 0, slots := 0, locals := 46 }) (va_Pc [.ref h0] (fun U => xmut dC dI h0 h1 h2 h3 cA t0 t1 t2 t3 sz (tx, n, ch, pl, k, rd, fp) U)) (va_Qi (fun (r : Int32) (u : XS) => r = (xRt tx n n 0 ch pl k 0 fp).1 ∧ u = (tx, n, (xRt tx n n 0 ch pl k 0 fp).2.1, (xRt tx n n 0 ch pl k 0 fp).2.2.1, (xRt tx n n 0 ch pl k 0 fp).2.2.2.1, rd, (xRt tx n n 0 ch pl k 0 fp).2.2.2.2)) (xatt dC dI h0 h1 h2 h3 cA (va_A (xw h0 h1 h2 h3 cA (tx, n, ch, pl, k, rd, fp)) sz)) (va_A (xw h0 h1 h2 h3 cA (tx, n, ch, pl, k, rd, fp)) sz)) 0 0 (va_A (xw h0 h1 h2 h3 cA (tx, n, ch, pl, k, rd, fp)) sz) := by
  refine Met.ofW (cc := cX0_readText) (maxL := 5) (ret := (some .int)) (by decide) rfl ?_
  intro p e s m args below meth c s₁ B hml hv
  obtain ⟨rfl, hsz, hP, hK, hD0, hT⟩ := hv
  have hx := B.exec
  have hb := B.bytes
  have hr := B.returns
  have hts := atoms_spec (ws := wsX0_readText) B.pre
  have hown : s.vm.findClass RX0 = some m.cls := findClass_of_methodNamed B.named
  subst hsz
  have hD := hD0.self (sz := s.heap.size)
  generalize hAe : va_A (xw h0 h1 h2 h3 cA (tx, n, ch, pl, k, rd, fp)) s.heap.size = A at hD hT ⊢
  have hA : ∀ q : Nat, s.heap.size ≤ q → A q := fun q h => by rw [← hAe]; exact Or.inr h
  have hS : va_S A s.heap s.heap [] := va_S.rf
  have hP : va_P (dC, dI) vwCl [(h0, .inr (0, [.ref h1, .int (nI n), .ref h2, .ref h3, .int (nI k), .int (bI rd), .int fp])), (h1, .inl (cA, 1000, .inl tx)), (h2, .inl (cA, 1000, .inl ch)), (h3, .inl (cA, 1001, .inl pl))] s.heap := hP
  have hD : va_D A [(h0, .inr (0, [.ref h1, .int (nI n), .ref h2, .ref h3, .int (nI k), .int (bI rd), .int fp])), (h1, .inl (cA, 1000, .inl tx)), (h2, .inl (cA, 1000, .inl ch)), (h3, .inl (cA, 1001, .inl pl))] := hD
  have hIn : ∀ w ∈ wsX00, w ∈ wsX0_readText := by decide +kernel
  obtain ⟨hz0, ht0, hz1, ht1, hz2, ht2, hz3, ht3⟩ := id hT
  have hl := lv_entry ([.ref h0]) (n := 5) (Nat.le_of_ble_eq_true rfl)
  rw [lg_entry_eq]
  generalize (lg_sl ([.ref h0]) ++ List.replicate (5 - (lg_sl ([.ref h0])).length) Slot.unset).toArray = ls at hl ⊢
  have hl : lv_has ls 5 [(0, .ref h0)] := hl
  generalize hR : xRt tx n n 0 ch pl k 0 fp = RR
  have loop : ∀ (d fr nx : Nat) (ch2 pl2 : Nat → Int32) (k2 : Nat) (H : Heap) (locs : List Loc) (ls : Array Slot), fr + d = n → nx ≤ 1004 → k2 ≤ fr → xRt tx n d fr ch2 pl2 k2 nx fp = RR → va_P (dC, dI) vwCl [(h0, .inr (0, [.ref h1, .int (nI n), .ref h2, .ref h3, .int (nI k2), .int (bI rd), .int fp])), (h1, .inl (cA, 1000, .inl tx)), (h2, .inl (cA, 1000, .inl ch2)), (h3, .inl (cA, 1001, .inl pl2))] H → va_D A [(h0, .inr (0, [.ref h1, .int (nI n), .ref h2, .ref h3, .int (nI k2), .int (bI rd), .int fp])), (h1, .inl (cA, 1000, .inl tx)), (h2, .inl (cA, 1000, .inl ch2)), (h3, .inl (cA, 1001, .inl pl2))] → va_S A s.heap H locs → lv_has ls 5 [(2, .int (nI fr)), (1, .int (nI nx)), (0, .ref h0)] → W p l e (headSpec wsX0_readText ({ frames := 2, cells := 0, slots := 0, locals := 46 })).room s m ([.ref h0] : List Value).toArray below meth c H locs 0 0 (MQ below (va_Qi (fun (r : Int32) (u : XS) => r = RR.1 ∧ u = (tx, n, RR.2.1, RR.2.2.1, RR.2.2.2.1, rd, RR.2.2.2.2)) (xatt dC dI h0 h1 h2 h3 cA A) A) ([.ref h0] : List Value).toArray s 0 0 A) (F0 m 4 ls []) := by
    intro d
    induction d with
    | zero =>
      intro fr nx ch2 pl2 k2 H locs ls hfd hnx hk2 hRR hP hD hS hl
      refine lv_iload_n hx hb dX0_readText_4 rfl (lv_at hl 0 rfl) ?_
      refine lv_aload_n hx hb dX0_readText_5 rfl (lv_at hl 2 rfl) ?_
      refine va_get (D := (dC, dI)) (ci := 0) (v := .int (nI n)) (C := RX0) (T := TX0) (N := 7) hx hb hts hIn hown hK hP 0 rfl rfl 1 (by decide) (hts (.fieldLink RX0 19 RX0 "textLength" "I") (by decide +kernel)) (fun _ h9 => h9) rfl dX0_readText_6 ?_
      refine lv_icmp_ge (tgt := 84) hx hb dX0_readText_9 (by decide) (fun c_1 => ?_) (fun c_1 => ?_)
      · refine lv_iconst (v := 0) hx hb dX0_readText_84 (by decide) ?_
        have hP9 : va_P (dC, dI) vwCl (xw h0 h1 h2 h3 cA (tx, n, ch2, pl2, k2, rd, fp)) H := hP
        have hD9 : va_D A (xw h0 h1 h2 h3 cA (tx, n, ch2, pl2, k2, rd, fp)) := hD
        exact W.iret (v := 0) hx hb hr (fun t ht hW => ⟨⟨0, (tx, n, ch2, pl2, k2, rd, fp), rfl, (by rw [← hRR]; exact ⟨rfl, rfl⟩), by rw [ht]; exact hP9, va_K.moved hW.alike hK, hD9⟩, hS.F ht⟩) hS.2.2 dX0_readText_85
      · exact absurd (nI_le (by omega) (by omega)) c_1
    | succ d ih =>
      intro fr nx ch2 pl2 k2 H locs ls hfd hnx hk2 hRR hP hD hS hl
      refine lv_iload_n hx hb dX0_readText_4 rfl (lv_at hl 0 rfl) ?_
      refine lv_aload_n hx hb dX0_readText_5 rfl (lv_at hl 2 rfl) ?_
      refine va_get (D := (dC, dI)) (ci := 0) (v := .int (nI n)) (C := RX0) (T := TX0) (N := 7) hx hb hts hIn hown hK hP 0 rfl rfl 1 (by decide) (hts (.fieldLink RX0 19 RX0 "textLength" "I") (by decide +kernel)) (fun _ h9 => h9) rfl dX0_readText_6 ?_
      refine lv_icmp_ge (tgt := 84) hx hb dX0_readText_9 (by decide) (fun c_2 => ?_) (fun c_2 => ?_)
      · exact absurd c_2 (nI_ge (by omega) (by omega))
      · refine lv_iload_n hx hb dX0_readText_12 rfl (lv_at hl 0 rfl) ?_
        refine lv_iload_n hx hb dX0_readText_13 rfl (lv_at hl 1 rfl) ?_
        refine lv_icmp_ge (tgt := 20) hx hb dX0_readText_14 (by decide) (fun c_3 => ?_) (fun c_3 => ?_)
        · have hge : ¬ fr < nx := Nat.not_lt.mpr ((nI_leI (by omega) (by omega)).mp c_3)
          refine lv_aload_n hx hb dX0_readText_20 rfl (lv_at hl 2 rfl) ?_
          refine lv_iload_n hx hb dX0_readText_21 rfl (lv_at hl 0 rfl) ?_
          refine vp_callSi (W.runV (As := [.int (nI fr)]) (rest := []) ⟨hx, hb, hml, hown, hts⟩ (c_X0_decodedAt l dC dI h0 h1 h2 h3 cA t0 t1 t2 t3 tx n ch2 pl2 k2 rd fp fr (by omega) (by omega)) (cwV 1 hts gX0_readText_X0_decodedAt rfl rfl rfl (by decide +kernel) ⟨Nat.le_of_ble_eq_true rfl, Nat.le_of_ble_eq_true rfl⟩) ⟨xpre_blind, va_recv hK hP (ci := 0) (q0 := 0) rfl rfl, fun U hU hW => ⟨rfl, xpre_of hP hK hT hS hU hW⟩⟩ rfl rfl hl.1 rfl (lv_room (Nat.le_of_ble_eq_true rfl)) dX0_readText_22 ⟨Nat.le_of_ble_eq_true rfl, Nat.le_of_ble_eq_true rfl⟩) (fun r_4 er_4 => ?_)
          obtain rfl : r_4 = xDec tx n fr := er_4
          refine lv_istore_n (lv' := [(3, .int (xDec tx n fr)), (2, .int (nI fr)), (1, .int (nI nx)), (0, .ref h0)]) hx hb dX0_readText_25 rfl hl (by decide) rfl (fun ls hl => ?_)
          refine lv_iload_n hx hb dX0_readText_26 rfl (lv_at hl 0 rfl) ?_
          refine vp_callSi (W.runS (As := [.int (xDec tx n fr)]) (rest := []) ⟨hx, hb, hml, hown, hts⟩ (c_X0_faultOf l t0 t1 t2 t3 (xDec tx n fr)) (va_cwS 1 hts gX0_readText_X0_faultOf rfl rfl rfl (by decide +kernel) ⟨Nat.le_of_ble_eq_true rfl, Nat.le_of_ble_eq_true rfl⟩) ⟨xtab_blind, fun U hU hW => ⟨rfl, xtab_call hT hS hU hW (fun _ q => q.elim)⟩⟩ rfl rfl hl.1 rfl (lv_room (Nat.le_of_ble_eq_true rfl)) dX0_readText_27 ⟨Nat.le_of_ble_eq_true rfl, Nat.le_of_ble_eq_true rfl⟩) (fun r_5 er_5 => ?_)
          obtain rfl : r_5 = xFault (xDec tx n fr) := er_5
          refine lv_istore (lv' := [(4, .int (xFault (xDec tx n fr))), (3, .int (xDec tx n fr)), (2, .int (nI fr)), (1, .int (nI nx)), (0, .ref h0)]) hx hb dX0_readText_30 hl (by decide) rfl (fun ls hl => ?_)
          refine lv_iload hx hb dX0_readText_32 (lv_at hl 0 rfl) ?_
          refine lv_if_eq (tgt := 45) hx hb dX0_readText_34 (by decide) (fun c_6 => ?_) (fun c_6 => ?_)
          · refine lv_aload_n hx hb dX0_readText_45 rfl (lv_at hl 4 rfl) ?_
            refine lv_iload_n hx hb dX0_readText_46 rfl (lv_at hl 1 rfl) ?_
            refine lv_iload_n hx hb dX0_readText_47 rfl (lv_at hl 2 rfl) ?_
            refine vp_callSi (W.runV (As := [.int (xDec tx n fr), .int (nI fr)]) (rest := []) ⟨hx, hb, hml, hown, hts⟩ (c_X0_isLeftOut l dC dI h0 h1 h2 h3 cA t0 t1 t2 t3 tx n ch2 pl2 k2 rd fp (xDec tx n fr) fr (by omega)) (cwV 2 hts gX0_readText_X0_isLeftOut rfl rfl rfl (by decide +kernel) ⟨Nat.le_of_ble_eq_true rfl, Nat.le_of_ble_eq_true rfl⟩) ⟨xpre_blind, va_recv hK hP (ci := 0) (q0 := 0) rfl rfl, fun U hU hW => ⟨rfl, xpre_of hP hK hT hS hU hW⟩⟩ rfl rfl hl.1 rfl (lv_room (Nat.le_of_ble_eq_true rfl)) dX0_readText_48 ⟨Nat.le_of_ble_eq_true rfl, Nat.le_of_ble_eq_true rfl⟩) (fun r_7 er_7 => ?_)
            obtain rfl : r_7 = bI (xLeft tx (xDec tx n fr) fr) := er_7
            refine lv_if_ne (tgt := 71) hx hb dX0_readText_51 (by decide) (fun c_8 => ?_) (fun c_8 => ?_)
            · have c_8 := bI_n0 c_8
              refine lv_iload_n hx hb dX0_readText_71 rfl (lv_at hl 2 rfl) ?_
              refine lv_iload_n hx hb dX0_readText_72 rfl (lv_at hl 1 rfl) ?_
              refine vp_callSi (W.runS (As := [.int (xDec tx n fr)]) (rest := [.int (nI fr)]) ⟨hx, hb, hml, hown, hts⟩ (c_X0_widthOf l (xDec tx n fr)) (va_cwS 1 hts gX0_readText_X0_widthOf rfl rfl rfl (by decide +kernel) ⟨Nat.le_of_ble_eq_true rfl, Nat.le_of_ble_eq_true rfl⟩) ⟨fun _ _ _ _ q => q, fun U hU hW => ⟨rfl, trivial⟩⟩ rfl rfl hl.1 rfl (lv_room (Nat.le_of_ble_eq_true rfl)) dX0_readText_73 ⟨Nat.le_of_ble_eq_true rfl, Nat.le_of_ble_eq_true rfl⟩) (fun r_9 er_9 => ?_)
              obtain rfl : r_9 = xWidth (xDec tx n fr) := er_9
              obtain ⟨wd, hw4, hwd⟩ := xWidth_nat (xDec tx n fr)
              rw [hwd]
              refine lv_iadd hx hb dX0_readText_76 ?_
              refine lv_topi (fun x_10 ex_10 => ?_)
              obtain rfl : x_10 = nI (fr + wd) := ex_10.trans (nI_add _ _)
              refine lv_istore_n (lv' := [(1, .int (nI (fr + wd))), (4, .int (xFault (xDec tx n fr))), (3, .int (xDec tx n fr)), (2, .int (nI fr)), (0, .ref h0)]) hx hb dX0_readText_77 rfl hl (by decide) rfl (fun ls hl => ?_)
              refine lv_iinc (v := nI (fr + 1)) (lv' := [(2, .int (nI (fr + 1))), (1, .int (nI (fr + wd))), (4, .int (xFault (xDec tx n fr))), (3, .int (xDec tx n fr)), (0, .ref h0)]) hx hb dX0_readText_78 hl (k := 3) rfl (nI_1 _) (by decide) rfl (fun ls hl => ?_)
              refine lv_goto (tgt := 4) hx hb dX0_readText_81 (by decide) ?_
              exact ih (fr + 1) (fr + wd) ch2 pl2 k2 H locs ls (by omega) (by omega) (by omega) (by rw [← hRR, xRt, if_neg hge, if_pos c_6, if_pos c_8, hwd, nI_cl3 (fo := wd) (by omega)]) hP hD hS (lv_sub hl [0, 1, 4] rfl)
            · have c_8 := bI_0 c_8
              refine lv_aload_n hx hb dX0_readText_54 rfl (lv_at hl 4 rfl) ?_
              refine lv_iload_n hx hb dX0_readText_55 rfl (lv_at hl 1 rfl) ?_
              refine lv_bipush (v := 13) hx hb dX0_readText_56 (by decide) ?_
              refine lv_icmp_ne (tgt := 66) hx hb dX0_readText_58 (by decide) (fun c_11 => ?_) (fun c_11 => ?_)
              · refine lv_iload_n hx hb dX0_readText_66 rfl (lv_at hl 1 rfl) ?_
                refine lv_iload_n hx hb dX0_readText_67 rfl (lv_at hl 2 rfl) ?_
                have hFc := va_free (wc := xw h0 h1 h2 h3 cA (tx, n, ch2, pl2, k2, rd, fp)) hD hS hA [0, 1, 2, 3] rfl
                refine va_callv (va_runV (As := [.int (xDec tx n fr), .int (nI fr)]) (rest := []) ⟨hx, hb, hml, hown, hts⟩ (c_X0_keep l dC dI h0 h1 h2 h3 cA t0 t1 t2 t3 H.size tx n ch2 pl2 k2 rd fp (xDec tx n fr) fr (by omega)) (cwV 2 hts gX0_readText_X0_keep rfl rfl rfl (by decide +kernel) ⟨Nat.le_of_ble_eq_true rfl, Nat.le_of_ble_eq_true rfl⟩) ⟨xmut_blind, va_recv hK hP (ci := 0) (q0 := 0) rfl rfl, fun U hU hW => ⟨rfl, xmut_of hP hK hD hT hS hFc hU hW⟩⟩ rfl rfl hl.1 rfl (lv_room (Nat.le_of_ble_eq_true rfl)) dX0_readText_68 ⟨Nat.le_of_ble_eq_true rfl, Nat.le_of_ble_eq_true rfl⟩) hS (fun q _ h => hFc q h) hFc (fun u_12 t_12 H1 locs ht hvm hw hB hz1 hk1 hS => ?_)
                obtain rfl : u_12 = (tx, n, (upd ch2 k2 (xDec tx n fr)), (upd pl2 k2 (nI fr)), (k2 + 1), rd, fp) := hw
                obtain ⟨hP1, hK1, hD1⟩ := hB
                rw [ht] at hP1
                obtain ⟨hP, hD⟩ := va_join (wr := []) (w1 := xw h0 h1 h2 h3 cA (tx, n, (upd ch2 k2 (xDec tx n fr)), (upd pl2 k2 (nI fr)), (k2 + 1), rd, fp)) hP hD [0, 1, 2, 3] [] rfl rfl (by decide) (by decide) hk1 hFc hP1 hD1
                generalize H1 = H at hP hS ⊢
                have hP : va_P (dC, dI) vwCl [(h0, .inr (0, [.ref h1, .int (nI n), .ref h2, .ref h3, .int (nI (k2 + 1)), .int (bI rd), .int fp])), (h1, .inl (cA, 1000, .inl tx)), (h2, .inl (cA, 1000, .inl (upd ch2 k2 (xDec tx n fr)))), (h3, .inl (cA, 1001, .inl (upd pl2 k2 (nI fr))))] H := hP
                have hD : va_D A [(h0, .inr (0, [.ref h1, .int (nI n), .ref h2, .ref h3, .int (nI (k2 + 1)), .int (bI rd), .int fp])), (h1, .inl (cA, 1000, .inl tx)), (h2, .inl (cA, 1000, .inl (upd ch2 k2 (xDec tx n fr)))), (h3, .inl (cA, 1001, .inl (upd pl2 k2 (nI fr))))] := hD
                refine lv_iload_n hx hb dX0_readText_71 rfl (lv_at hl 2 rfl) ?_
                refine lv_iload_n hx hb dX0_readText_72 rfl (lv_at hl 1 rfl) ?_
                refine vp_callSi (W.runS (As := [.int (xDec tx n fr)]) (rest := [.int (nI fr)]) ⟨hx, hb, hml, hown, hts⟩ (c_X0_widthOf l (xDec tx n fr)) (va_cwS 1 hts gX0_readText_X0_widthOf rfl rfl rfl (by decide +kernel) ⟨Nat.le_of_ble_eq_true rfl, Nat.le_of_ble_eq_true rfl⟩) ⟨fun _ _ _ _ q => q, fun U hU hW => ⟨rfl, trivial⟩⟩ rfl rfl hl.1 rfl (lv_room (Nat.le_of_ble_eq_true rfl)) dX0_readText_73 ⟨Nat.le_of_ble_eq_true rfl, Nat.le_of_ble_eq_true rfl⟩) (fun r_13 er_13 => ?_)
                obtain rfl : r_13 = xWidth (xDec tx n fr) := er_13
                obtain ⟨wd, hw4, hwd⟩ := xWidth_nat (xDec tx n fr)
                rw [hwd]
                refine lv_iadd hx hb dX0_readText_76 ?_
                refine lv_topi (fun x_14 ex_14 => ?_)
                obtain rfl : x_14 = nI (fr + wd) := ex_14.trans (nI_add _ _)
                refine lv_istore_n (lv' := [(1, .int (nI (fr + wd))), (4, .int (xFault (xDec tx n fr))), (3, .int (xDec tx n fr)), (2, .int (nI fr)), (0, .ref h0)]) hx hb dX0_readText_77 rfl hl (by decide) rfl (fun ls hl => ?_)
                refine lv_iinc (v := nI (fr + 1)) (lv' := [(2, .int (nI (fr + 1))), (1, .int (nI (fr + wd))), (4, .int (xFault (xDec tx n fr))), (3, .int (xDec tx n fr)), (0, .ref h0)]) hx hb dX0_readText_78 hl (k := 3) rfl (nI_1 _) (by decide) rfl (fun ls hl => ?_)
                refine lv_goto (tgt := 4) hx hb dX0_readText_81 (by decide) ?_
                exact ih (fr + 1) (fr + wd) (upd ch2 k2 (xDec tx n fr)) (upd pl2 k2 (nI fr)) (k2 + 1) H locs ls (by omega) (by omega) (by omega) (by rw [← hRR, xRt, if_neg hge, if_pos c_6, if_neg c_8, if_neg c_11, hwd, nI_cl3 (fo := wd) (by omega)]) hP hD hS (lv_sub hl [0, 1, 4] rfl)
              · refine lv_bipush (v := 10) hx hb dX0_readText_61 (by decide) ?_
                refine lv_goto (tgt := 67) hx hb dX0_readText_63 (by decide) ?_
                refine lv_iload_n hx hb dX0_readText_67 rfl (lv_at hl 2 rfl) ?_
                have hFc := va_free (wc := xw h0 h1 h2 h3 cA (tx, n, ch2, pl2, k2, rd, fp)) hD hS hA [0, 1, 2, 3] rfl
                refine va_callv (va_runV (As := [.int 10, .int (nI fr)]) (rest := []) ⟨hx, hb, hml, hown, hts⟩ (c_X0_keep l dC dI h0 h1 h2 h3 cA t0 t1 t2 t3 H.size tx n ch2 pl2 k2 rd fp 10 fr (by omega)) (cwV 2 hts gX0_readText_X0_keep rfl rfl rfl (by decide +kernel) ⟨Nat.le_of_ble_eq_true rfl, Nat.le_of_ble_eq_true rfl⟩) ⟨xmut_blind, va_recv hK hP (ci := 0) (q0 := 0) rfl rfl, fun U hU hW => ⟨rfl, xmut_of hP hK hD hT hS hFc hU hW⟩⟩ rfl rfl hl.1 rfl (lv_room (Nat.le_of_ble_eq_true rfl)) dX0_readText_68 ⟨Nat.le_of_ble_eq_true rfl, Nat.le_of_ble_eq_true rfl⟩) hS (fun q _ h => hFc q h) hFc (fun u_15 t_15 H1 locs ht hvm hw hB hz1 hk1 hS => ?_)
                obtain rfl : u_15 = (tx, n, (upd ch2 k2 10), (upd pl2 k2 (nI fr)), (k2 + 1), rd, fp) := hw
                obtain ⟨hP1, hK1, hD1⟩ := hB
                rw [ht] at hP1
                obtain ⟨hP, hD⟩ := va_join (wr := []) (w1 := xw h0 h1 h2 h3 cA (tx, n, (upd ch2 k2 10), (upd pl2 k2 (nI fr)), (k2 + 1), rd, fp)) hP hD [0, 1, 2, 3] [] rfl rfl (by decide) (by decide) hk1 hFc hP1 hD1
                generalize H1 = H at hP hS ⊢
                have hP : va_P (dC, dI) vwCl [(h0, .inr (0, [.ref h1, .int (nI n), .ref h2, .ref h3, .int (nI (k2 + 1)), .int (bI rd), .int fp])), (h1, .inl (cA, 1000, .inl tx)), (h2, .inl (cA, 1000, .inl (upd ch2 k2 10))), (h3, .inl (cA, 1001, .inl (upd pl2 k2 (nI fr))))] H := hP
                have hD : va_D A [(h0, .inr (0, [.ref h1, .int (nI n), .ref h2, .ref h3, .int (nI (k2 + 1)), .int (bI rd), .int fp])), (h1, .inl (cA, 1000, .inl tx)), (h2, .inl (cA, 1000, .inl (upd ch2 k2 10))), (h3, .inl (cA, 1001, .inl (upd pl2 k2 (nI fr))))] := hD
                refine lv_iload_n hx hb dX0_readText_71 rfl (lv_at hl 2 rfl) ?_
                refine lv_iload_n hx hb dX0_readText_72 rfl (lv_at hl 1 rfl) ?_
                refine vp_callSi (W.runS (As := [.int (xDec tx n fr)]) (rest := [.int (nI fr)]) ⟨hx, hb, hml, hown, hts⟩ (c_X0_widthOf l (xDec tx n fr)) (va_cwS 1 hts gX0_readText_X0_widthOf rfl rfl rfl (by decide +kernel) ⟨Nat.le_of_ble_eq_true rfl, Nat.le_of_ble_eq_true rfl⟩) ⟨fun _ _ _ _ q => q, fun U hU hW => ⟨rfl, trivial⟩⟩ rfl rfl hl.1 rfl (lv_room (Nat.le_of_ble_eq_true rfl)) dX0_readText_73 ⟨Nat.le_of_ble_eq_true rfl, Nat.le_of_ble_eq_true rfl⟩) (fun r_16 er_16 => ?_)
                obtain rfl : r_16 = xWidth (xDec tx n fr) := er_16
                obtain ⟨wd, hw4, hwd⟩ := xWidth_nat (xDec tx n fr)
                rw [hwd]
                refine lv_iadd hx hb dX0_readText_76 ?_
                refine lv_topi (fun x_17 ex_17 => ?_)
                obtain rfl : x_17 = nI (fr + wd) := ex_17.trans (nI_add _ _)
                refine lv_istore_n (lv' := [(1, .int (nI (fr + wd))), (4, .int (xFault (xDec tx n fr))), (3, .int (xDec tx n fr)), (2, .int (nI fr)), (0, .ref h0)]) hx hb dX0_readText_77 rfl hl (by decide) rfl (fun ls hl => ?_)
                refine lv_iinc (v := nI (fr + 1)) (lv' := [(2, .int (nI (fr + 1))), (1, .int (nI (fr + wd))), (4, .int (xFault (xDec tx n fr))), (3, .int (xDec tx n fr)), (0, .ref h0)]) hx hb dX0_readText_78 hl (k := 3) rfl (nI_1 _) (by decide) rfl (fun ls hl => ?_)
                refine lv_goto (tgt := 4) hx hb dX0_readText_81 (by decide) ?_
                exact ih (fr + 1) (fr + wd) (upd ch2 k2 10) (upd pl2 k2 (nI fr)) (k2 + 1) H locs ls (by omega) (by omega) (by omega) (by rw [← hRR, xRt, if_neg hge, if_pos c_6, if_neg c_8, if_pos c_11, hwd, nI_cl3 (fo := wd) (by omega)]) hP hD hS (lv_sub hl [0, 1, 4] rfl)
          · refine lv_aload_n hx hb dX0_readText_37 rfl (lv_at hl 4 rfl) ?_
            refine lv_iload_n hx hb dX0_readText_38 rfl (lv_at hl 2 rfl) ?_
            refine va_put (D := (dC, dI)) (ci := 0) (v := .int (nI fr)) (ty := .int) (C := RX0) (T := TX0) (N := 7) hx hb hts hIn tyX0 tyX0_ok nmX0 hown hK hP hD hS 0 rfl rfl 6 (by decide) (hts (.fieldLink RX0 30 RX0 "faultPlace" "I") (by decide +kernel)) (fun _ h9 => h9) rfl (by decide +kernel) rfl rfl (Nat.le_of_ble_eq_true rfl) dX0_readText_39 (fun H locs hP hD hS => ?_)
            have hP : va_P (dC, dI) vwCl [(h0, .inr (0, [.ref h1, .int (nI n), .ref h2, .ref h3, .int (nI k2), .int (bI rd), .int (nI fr)])), (h1, .inl (cA, 1000, .inl tx)), (h2, .inl (cA, 1000, .inl ch2)), (h3, .inl (cA, 1001, .inl pl2))] H := hP
            have hD : va_D A [(h0, .inr (0, [.ref h1, .int (nI n), .ref h2, .ref h3, .int (nI k2), .int (bI rd), .int (nI fr)])), (h1, .inl (cA, 1000, .inl tx)), (h2, .inl (cA, 1000, .inl ch2)), (h3, .inl (cA, 1001, .inl pl2))] := hD
            refine lv_iload hx hb dX0_readText_42 (lv_at hl 0 rfl) ?_
            have hP9 : va_P (dC, dI) vwCl (xw h0 h1 h2 h3 cA (tx, n, ch2, pl2, k2, rd, (nI fr))) H := hP
            have hD9 : va_D A (xw h0 h1 h2 h3 cA (tx, n, ch2, pl2, k2, rd, (nI fr))) := hD
            exact W.iret (v := xFault (xDec tx n fr)) hx hb hr (fun t ht hW => ⟨⟨xFault (xDec tx n fr), (tx, n, ch2, pl2, k2, rd, (nI fr)), rfl, (by rw [← hRR, xRt, if_neg hge, if_neg c_6]; exact ⟨rfl, rfl⟩), by rw [ht]; exact hP9, va_K.moved hW.alike hK, hD9⟩, hS.F ht⟩) hS.2.2 dX0_readText_44
        · have hge : fr < nx := Nat.not_le.mp (fun z => c_3 ((nI_leI (by omega) (by omega)).mpr z))
          refine lv_goto (tgt := 78) hx hb dX0_readText_17 (by decide) ?_
          refine lv_iinc (v := nI (fr + 1)) (lv' := [(2, .int (nI (fr + 1))), (1, .int (nI nx)), (0, .ref h0)]) hx hb dX0_readText_78 hl (k := 0) rfl (nI_1 _) (by decide) rfl (fun ls hl => ?_)
          refine lv_goto (tgt := 4) hx hb dX0_readText_81 (by decide) ?_
          exact ih (fr + 1) nx ch2 pl2 k2 H locs ls (by omega) (by omega) (by omega) (by rw [← hRR, xRt, if_pos hge]) hP hD hS (lv_sub hl [0, 1, 2] rfl)
  refine lv_iconst (v := 0) hx hb dX0_readText_0 (by decide) ?_
  refine lv_istore_n (lv' := [(1, .int 0), (0, .ref h0)]) hx hb dX0_readText_1 rfl hl (by decide) rfl (fun ls hl => ?_)
  refine lv_iconst (v := 0) hx hb dX0_readText_2 (by decide) ?_
  refine lv_istore_n (lv' := [(2, .int 0), (1, .int 0), (0, .ref h0)]) hx hb dX0_readText_3 rfl hl (by decide) rfl (fun ls hl => ?_)
  exact loop n 0 0 ch pl k s.heap [] ls (by omega) (by omega) (by omega) hR hP hD hS (lv_sub hl [0, 1, 2] rfl)
set_option maxHeartbeats 4000000 in
set_option maxRecDepth 100000 in
theorem c_X0_read (l : Launch) (dC : Nat → ClassId) (dI : Nat → Nat → Nat) (h0 h1 h2 h3 : Nat) (cA : ClassId) (t0 t1 t2 t3 : Nat) (sz : Nat) (tx : Nat → Int32) (n : Nat) (ch pl : Nat → Int32) (k : Nat) (rd : Bool) (fp : Int32) (hn : n ≤ 1000) : Met l yX0_read wsX0_read ({ frames := 3, cells := 0, slots := 0, locals := 70 }) (va_Pc [.ref h0] (fun U => xmut dC dI h0 h1 h2 h3 cA t0 t1 t2 t3 sz (tx, n, ch, pl, k, rd, fp) U)) (va_Qi (fun (r : Int32) (u : XS) => r = xRead (xRt tx n n 0 ch pl 0 0 (-1)) ∧ u = xReadU tx n (xRt tx n n 0 ch pl 0 0 (-1))) (xatt dC dI h0 h1 h2 h3 cA (va_A (xw h0 h1 h2 h3 cA (tx, n, ch, pl, k, rd, fp)) sz)) (va_A (xw h0 h1 h2 h3 cA (tx, n, ch, pl, k, rd, fp)) sz)) 0 0 (va_A (xw h0 h1 h2 h3 cA (tx, n, ch, pl, k, rd, fp)) sz) := by
  refine Met.ofW (cc := cX0_read) (maxL := 2) (ret := (some .int)) (by decide) rfl ?_
  intro p e s m args below meth c s₁ B hml hv
  obtain ⟨rfl, hsz, hP, hK, hD0, hT⟩ := hv
  have hx := B.exec
  have hb := B.bytes
  have hr := B.returns
  have hts := atoms_spec (ws := wsX0_read) B.pre
  have hown : s.vm.findClass RX0 = some m.cls := findClass_of_methodNamed B.named
  subst hsz
  have hD := hD0.self (sz := s.heap.size)
  generalize hAe : va_A (xw h0 h1 h2 h3 cA (tx, n, ch, pl, k, rd, fp)) s.heap.size = A at hD hT ⊢
  have hA : ∀ q : Nat, s.heap.size ≤ q → A q := fun q h => by rw [← hAe]; exact Or.inr h
  have hS : va_S A s.heap s.heap [] := va_S.rf
  have hP : va_P (dC, dI) vwCl [(h0, .inr (0, [.ref h1, .int (nI n), .ref h2, .ref h3, .int (nI k), .int (bI rd), .int fp])), (h1, .inl (cA, 1000, .inl tx)), (h2, .inl (cA, 1000, .inl ch)), (h3, .inl (cA, 1001, .inl pl))] s.heap := hP
  have hD : va_D A [(h0, .inr (0, [.ref h1, .int (nI n), .ref h2, .ref h3, .int (nI k), .int (bI rd), .int fp])), (h1, .inl (cA, 1000, .inl tx)), (h2, .inl (cA, 1000, .inl ch)), (h3, .inl (cA, 1001, .inl pl))] := hD
  have hIn : ∀ w ∈ wsX00, w ∈ wsX0_read := by decide +kernel
  obtain ⟨hz0, ht0, hz1, ht1, hz2, ht2, hz3, ht3⟩ := id hT
  have hl := lv_entry ([.ref h0]) (n := 2) (Nat.le_of_ble_eq_true rfl)
  rw [lg_entry_eq]
  generalize (lg_sl ([.ref h0]) ++ List.replicate (2 - (lg_sl ([.ref h0])).length) Slot.unset).toArray = ls at hl ⊢
  have hl : lv_has ls 2 [(0, .ref h0)] := hl
  refine lv_aload_n hx hb dX0_read_0 rfl (lv_at hl 0 rfl) ?_
  have hFc := va_free (wc := xw h0 h1 h2 h3 cA (tx, n, ch, pl, k, rd, fp)) hD hS hA [0, 1, 2, 3] rfl
  refine va_callv (va_runV (As := []) (rest := []) ⟨hx, hb, hml, hown, hts⟩ (c_X0_forgetReading l dC dI h0 h1 h2 h3 cA t0 t1 t2 t3 s.heap.size tx n ch pl k rd fp) (cwV 0 hts gX0_read_X0_forgetReading rfl rfl rfl (by decide +kernel) ⟨Nat.le_of_ble_eq_true rfl, Nat.le_of_ble_eq_true rfl⟩) ⟨xmut_blind, va_recv hK hP (ci := 0) (q0 := 0) rfl rfl, fun U hU hW => ⟨rfl, xmut_of hP hK hD hT hS hFc hU hW⟩⟩ rfl rfl hl.1 rfl (lv_room (Nat.le_of_ble_eq_true rfl)) dX0_read_1 ⟨Nat.le_of_ble_eq_true rfl, Nat.le_of_ble_eq_true rfl⟩) hS (fun q _ h => hFc q h) hFc (fun u_1 t_1 H1 locs ht hvm hw hB hz1 hk1 hS => ?_)
  obtain rfl : u_1 = (tx, n, ch, pl, 0, false, (-1)) := hw
  obtain ⟨hP1, hK1, hD1⟩ := hB
  rw [ht] at hP1
  obtain ⟨hP, hD⟩ := va_join (wr := []) (w1 := xw h0 h1 h2 h3 cA (tx, n, ch, pl, 0, false, (-1))) hP hD [0, 1, 2, 3] [] rfl rfl (by decide) (by decide) hk1 hFc hP1 hD1
  generalize H1 = H at hP hS ⊢
  have hP : va_P (dC, dI) vwCl [(h0, .inr (0, [.ref h1, .int (nI n), .ref h2, .ref h3, .int (nI 0), .int (bI false), .int (-1)])), (h1, .inl (cA, 1000, .inl tx)), (h2, .inl (cA, 1000, .inl ch)), (h3, .inl (cA, 1001, .inl pl))] H := hP
  have hD : va_D A [(h0, .inr (0, [.ref h1, .int (nI n), .ref h2, .ref h3, .int (nI 0), .int (bI false), .int (-1)])), (h1, .inl (cA, 1000, .inl tx)), (h2, .inl (cA, 1000, .inl ch)), (h3, .inl (cA, 1001, .inl pl))] := hD
  refine lv_aload_n hx hb dX0_read_4 rfl (lv_at hl 0 rfl) ?_
  have hRk := xRt_k tx n n 0 ch pl 0 0 (-1)
  have hFc := va_free (wc := xw h0 h1 h2 h3 cA (tx, n, ch, pl, 0, false, (-1))) hD hS hA [0, 1, 2, 3] rfl
  refine va_calli (va_runV (As := []) (rest := []) ⟨hx, hb, hml, hown, hts⟩ (c_X0_readText l dC dI h0 h1 h2 h3 cA t0 t1 t2 t3 H.size tx n ch pl 0 false (-1) hn rfl) (cwV 0 hts gX0_read_X0_readText rfl rfl rfl (by decide +kernel) ⟨Nat.le_of_ble_eq_true rfl, Nat.le_of_ble_eq_true rfl⟩) ⟨xmut_blind, va_recv hK hP (ci := 0) (q0 := 0) rfl rfl, fun U hU hW => ⟨rfl, xmut_of hP hK hD hT hS hFc hU hW⟩⟩ rfl rfl hl.1 rfl (lv_room (Nat.le_of_ble_eq_true rfl)) dX0_read_5 ⟨Nat.le_of_ble_eq_true rfl, Nat.le_of_ble_eq_true rfl⟩) hS (fun q _ h => hFc q h) hFc (fun r_2 u_2 t_2 H1 locs ht hvm hw hB hz1 hk1 hS => ?_)
  generalize hR : xRt tx n n 0 ch pl 0 0 (-1) = RR at hw hRk
  obtain ⟨hw0, hw1⟩ := hw
  obtain rfl : r_2 = RR.1 := hw0
  obtain rfl : u_2 = (tx, n, RR.2.1, RR.2.2.1, RR.2.2.2.1, false, RR.2.2.2.2) := hw1
  obtain ⟨hP1, hK1, hD1⟩ := hB
  rw [ht] at hP1
  obtain ⟨hP, hD⟩ := va_join (wr := []) (w1 := xw h0 h1 h2 h3 cA (tx, n, RR.2.1, RR.2.2.1, RR.2.2.2.1, false, RR.2.2.2.2)) hP hD [0, 1, 2, 3] [] rfl rfl (by decide) (by decide) hk1 hFc hP1 hD1
  generalize H1 = H at hP hS ⊢
  have hP : va_P (dC, dI) vwCl [(h0, .inr (0, [.ref h1, .int (nI n), .ref h2, .ref h3, .int (nI RR.2.2.2.1), .int (bI false), .int RR.2.2.2.2])), (h1, .inl (cA, 1000, .inl tx)), (h2, .inl (cA, 1000, .inl RR.2.1)), (h3, .inl (cA, 1001, .inl RR.2.2.1))] H := hP
  have hD : va_D A [(h0, .inr (0, [.ref h1, .int (nI n), .ref h2, .ref h3, .int (nI RR.2.2.2.1), .int (bI false), .int RR.2.2.2.2])), (h1, .inl (cA, 1000, .inl tx)), (h2, .inl (cA, 1000, .inl RR.2.1)), (h3, .inl (cA, 1001, .inl RR.2.2.1))] := hD
  refine lv_istore_n (lv' := [(1, .int RR.1), (0, .ref h0)]) hx hb dX0_read_8 rfl hl (by decide) rfl (fun ls hl => ?_)
  refine lv_iload_n hx hb dX0_read_9 rfl (lv_at hl 0 rfl) ?_
  refine lv_if_ne (tgt := 34) hx hb dX0_read_10 (by decide) (fun c_3 => ?_) (fun c_3 => ?_)
  · refine lv_aload_n hx hb dX0_read_34 rfl (lv_at hl 1 rfl) ?_
    refine lv_iconst (v := 0) hx hb dX0_read_35 (by decide) ?_
    refine va_put (D := (dC, dI)) (ci := 0) (v := .int 0) (ty := .int) (C := RX0) (T := TX0) (N := 7) hx hb hts hIn tyX0 tyX0_ok nmX0 hown hK hP hD hS 0 rfl rfl 4 (by decide) (hts (.fieldLink RX0 23 RX0 "count" "I") (by decide +kernel)) (fun _ h9 => h9) rfl (by decide +kernel) rfl rfl (Nat.le_of_ble_eq_true rfl) dX0_read_36 (fun H locs hP hD hS => ?_)
    have hP : va_P (dC, dI) vwCl [(h0, .inr (0, [.ref h1, .int (nI n), .ref h2, .ref h3, .int 0, .int (bI false), .int RR.2.2.2.2])), (h1, .inl (cA, 1000, .inl tx)), (h2, .inl (cA, 1000, .inl RR.2.1)), (h3, .inl (cA, 1001, .inl RR.2.2.1))] H := hP
    have hD : va_D A [(h0, .inr (0, [.ref h1, .int (nI n), .ref h2, .ref h3, .int 0, .int (bI false), .int RR.2.2.2.2])), (h1, .inl (cA, 1000, .inl tx)), (h2, .inl (cA, 1000, .inl RR.2.1)), (h3, .inl (cA, 1001, .inl RR.2.2.1))] := hD
    refine lv_aload_n hx hb dX0_read_39 rfl (lv_at hl 1 rfl) ?_
    refine lv_iconst (v := 0) hx hb dX0_read_40 (by decide) ?_
    refine va_put (D := (dC, dI)) (ci := 0) (v := .int 0) (ty := .int) (C := RX0) (T := TX0) (N := 7) hx hb hts hIn tyX0 tyX0_ok nmX0 hown hK hP hD hS 0 rfl rfl 1 (by decide) (hts (.fieldLink RX0 19 RX0 "textLength" "I") (by decide +kernel)) (fun _ h9 => h9) rfl (by decide +kernel) rfl rfl (Nat.le_of_ble_eq_true rfl) dX0_read_41 (fun H locs hP hD hS => ?_)
    have hP : va_P (dC, dI) vwCl [(h0, .inr (0, [.ref h1, .int 0, .ref h2, .ref h3, .int 0, .int (bI false), .int RR.2.2.2.2])), (h1, .inl (cA, 1000, .inl tx)), (h2, .inl (cA, 1000, .inl RR.2.1)), (h3, .inl (cA, 1001, .inl RR.2.2.1))] H := hP
    have hD : va_D A [(h0, .inr (0, [.ref h1, .int 0, .ref h2, .ref h3, .int 0, .int (bI false), .int RR.2.2.2.2])), (h1, .inl (cA, 1000, .inl tx)), (h2, .inl (cA, 1000, .inl RR.2.1)), (h3, .inl (cA, 1001, .inl RR.2.2.1))] := hD
    refine lv_iload_n hx hb dX0_read_44 rfl (lv_at hl 0 rfl) ?_
    refine lv_if_ne (tgt := 55) hx hb dX0_read_45 (by decide) (fun c_4 => ?_) (fun c_4 => ?_)
    · refine lv_iconst (v := -1) hx hb dX0_read_55 (by decide) ?_
      refine lv_iload_n hx hb dX0_read_56 rfl (lv_at hl 0 rfl) ?_
      refine lv_isub hx hb dX0_read_57 ?_
      have hP9 : va_P (dC, dI) vwCl (xw h0 h1 h2 h3 cA (tx, 0, RR.2.1, RR.2.2.1, 0, false, RR.2.2.2.2)) H := hP
      have hD9 : va_D A (xw h0 h1 h2 h3 cA (tx, 0, RR.2.1, RR.2.2.1, 0, false, RR.2.2.2.2)) := hD
      exact W.iret (v := (-1) - RR.1) hx hb hr (fun t ht hW => ⟨⟨(-1) - RR.1, (tx, 0, RR.2.1, RR.2.2.1, 0, false, RR.2.2.2.2), rfl, (by rw [hR]; simp only [xRead, xReadU, if_neg c_3, if_neg c_4]; exact ⟨rfl, rfl⟩), by rw [ht]; exact hP9, va_K.moved hW.alike hK, hD9⟩, hS.F ht⟩) hS.2.2 dX0_read_58
    · exact absurd c_4 c_3
  · refine lv_aload_n hx hb dX0_read_13 rfl (lv_at hl 1 rfl) ?_
    refine va_get (D := (dC, dI)) (ci := 0) (v := .ref h3) (C := RX0) (T := TX0) (N := 7) hx hb hts hIn hown hK hP 0 rfl rfl 3 (by decide) (hts (.fieldLink RX0 16 RX0 "places" "[I") (by decide +kernel)) (fun _ h9 => h9) rfl dX0_read_14 ?_
    refine lv_aload_n hx hb dX0_read_17 rfl (lv_at hl 1 rfl) ?_
    refine va_get (D := (dC, dI)) (ci := 0) (v := .int (nI RR.2.2.2.1)) (C := RX0) (T := TX0) (N := 7) hx hb hts hIn hown hK hP 0 rfl rfl 4 (by decide) (hts (.fieldLink RX0 23 RX0 "count" "I") (by decide +kernel)) (fun _ h9 => h9) rfl dX0_read_18 ?_
    refine lv_aload_n hx hb dX0_read_21 rfl (lv_at hl 1 rfl) ?_
    refine va_get (D := (dC, dI)) (ci := 0) (v := .int (nI n)) (C := RX0) (T := TX0) (N := 7) hx hb hts hIn hown hK hP 0 rfl rfl 1 (by decide) (hts (.fieldLink RX0 19 RX0 "textLength" "I") (by decide +kernel)) (fun _ h9 => h9) rfl dX0_read_22 ?_
    refine va_iast hx hb hK hP hD hS 3 0 rfl rfl (vp_in_nI (by omega) (by omega)) dX0_read_25 (fun H locs hP hD hS => ?_)
    rw [nI_clamp (by omega)] at hP hD
    have hP : va_P (dC, dI) vwCl [(h0, .inr (0, [.ref h1, .int (nI n), .ref h2, .ref h3, .int (nI RR.2.2.2.1), .int (bI false), .int RR.2.2.2.2])), (h1, .inl (cA, 1000, .inl tx)), (h2, .inl (cA, 1000, .inl RR.2.1)), (h3, .inl (cA, 1001, .inl (upd RR.2.2.1 RR.2.2.2.1 (nI n))))] H := hP
    have hD : va_D A [(h0, .inr (0, [.ref h1, .int (nI n), .ref h2, .ref h3, .int (nI RR.2.2.2.1), .int (bI false), .int RR.2.2.2.2])), (h1, .inl (cA, 1000, .inl tx)), (h2, .inl (cA, 1000, .inl RR.2.1)), (h3, .inl (cA, 1001, .inl (upd RR.2.2.1 RR.2.2.2.1 (nI n))))] := hD
    refine lv_aload_n hx hb dX0_read_26 rfl (lv_at hl 1 rfl) ?_
    refine lv_iconst (v := 1) hx hb dX0_read_27 (by decide) ?_
    refine va_put (D := (dC, dI)) (ci := 0) (v := .int 1) (ty := .boolean) (C := RX0) (T := TX0) (N := 7) hx hb hts hIn tyX0 tyX0_ok nmX0 hown hK hP hD hS 0 rfl rfl 5 (by decide) (hts (.fieldLink RX0 26 RX0 "hasReading" "Z") (by decide +kernel)) (fun _ h9 => h9) rfl (by decide +kernel) rfl rfl (Nat.le_of_ble_eq_true rfl) dX0_read_28 (fun H locs hP hD hS => ?_)
    have hP : va_P (dC, dI) vwCl [(h0, .inr (0, [.ref h1, .int (nI n), .ref h2, .ref h3, .int (nI RR.2.2.2.1), .int 1, .int RR.2.2.2.2])), (h1, .inl (cA, 1000, .inl tx)), (h2, .inl (cA, 1000, .inl RR.2.1)), (h3, .inl (cA, 1001, .inl (upd RR.2.2.1 RR.2.2.2.1 (nI n))))] H := hP
    have hD : va_D A [(h0, .inr (0, [.ref h1, .int (nI n), .ref h2, .ref h3, .int (nI RR.2.2.2.1), .int 1, .int RR.2.2.2.2])), (h1, .inl (cA, 1000, .inl tx)), (h2, .inl (cA, 1000, .inl RR.2.1)), (h3, .inl (cA, 1001, .inl (upd RR.2.2.1 RR.2.2.2.1 (nI n))))] := hD
    refine lv_goto (tgt := 39) hx hb dX0_read_31 (by decide) ?_
    refine lv_aload_n hx hb dX0_read_39 rfl (lv_at hl 1 rfl) ?_
    refine lv_iconst (v := 0) hx hb dX0_read_40 (by decide) ?_
    refine va_put (D := (dC, dI)) (ci := 0) (v := .int 0) (ty := .int) (C := RX0) (T := TX0) (N := 7) hx hb hts hIn tyX0 tyX0_ok nmX0 hown hK hP hD hS 0 rfl rfl 1 (by decide) (hts (.fieldLink RX0 19 RX0 "textLength" "I") (by decide +kernel)) (fun _ h9 => h9) rfl (by decide +kernel) rfl rfl (Nat.le_of_ble_eq_true rfl) dX0_read_41 (fun H locs hP hD hS => ?_)
    have hP : va_P (dC, dI) vwCl [(h0, .inr (0, [.ref h1, .int 0, .ref h2, .ref h3, .int (nI RR.2.2.2.1), .int 1, .int RR.2.2.2.2])), (h1, .inl (cA, 1000, .inl tx)), (h2, .inl (cA, 1000, .inl RR.2.1)), (h3, .inl (cA, 1001, .inl (upd RR.2.2.1 RR.2.2.2.1 (nI n))))] H := hP
    have hD : va_D A [(h0, .inr (0, [.ref h1, .int 0, .ref h2, .ref h3, .int (nI RR.2.2.2.1), .int 1, .int RR.2.2.2.2])), (h1, .inl (cA, 1000, .inl tx)), (h2, .inl (cA, 1000, .inl RR.2.1)), (h3, .inl (cA, 1001, .inl (upd RR.2.2.1 RR.2.2.2.1 (nI n))))] := hD
    refine lv_iload_n hx hb dX0_read_44 rfl (lv_at hl 0 rfl) ?_
    refine lv_if_ne (tgt := 55) hx hb dX0_read_45 (by decide) (fun c_5 => ?_) (fun c_5 => ?_)
    · exact absurd c_3 c_5
    · refine lv_aload_n hx hb dX0_read_48 rfl (lv_at hl 1 rfl) ?_
      refine va_get (D := (dC, dI)) (ci := 0) (v := .int (nI RR.2.2.2.1)) (C := RX0) (T := TX0) (N := 7) hx hb hts hIn hown hK hP 0 rfl rfl 4 (by decide) (hts (.fieldLink RX0 23 RX0 "count" "I") (by decide +kernel)) (fun _ h9 => h9) rfl dX0_read_49 ?_
      refine lv_goto (tgt := 58) hx hb dX0_read_52 (by decide) ?_
      have hP9 : va_P (dC, dI) vwCl (xw h0 h1 h2 h3 cA (tx, 0, RR.2.1, (upd RR.2.2.1 RR.2.2.2.1 (nI n)), RR.2.2.2.1, true, RR.2.2.2.2)) H := hP
      have hD9 : va_D A (xw h0 h1 h2 h3 cA (tx, 0, RR.2.1, (upd RR.2.2.1 RR.2.2.2.1 (nI n)), RR.2.2.2.1, true, RR.2.2.2.2)) := hD
      exact W.iret (v := nI RR.2.2.2.1) hx hb hr (fun t ht hW => ⟨⟨nI RR.2.2.2.1, (tx, 0, RR.2.1, (upd RR.2.2.1 RR.2.2.2.1 (nI n)), RR.2.2.2.1, true, RR.2.2.2.2), rfl, (by rw [hR]; simp only [xRead, xReadU, if_pos c_3, if_pos c_5]; exact ⟨rfl, rfl⟩), by rw [ht]; exact hP9, va_K.moved hW.alike hK, hD9⟩, hS.F ht⟩) hS.2.2 dX0_read_58
set_option maxHeartbeats 4000000 in
set_option maxRecDepth 100000 in
/-- CharDesk() -/
theorem c_X0_init (l : Launch) (dC : Nat → ClassId) (dI : Nat → Nat → Nat) (h0 : Nat) (sz : Nat) : Met l yX0_init wsX0_init ({ frames := 1, cells := 3, slots := 3001, locals := 20 }) (va_Pc [.ref h0] (fun U => U.heap.size = sz ∧ va_P (dC, dI) vwCl [(h0, .inr (0, [.null, .int 0, .null, .null, .int 0, .int 0, .int 0]))] U.heap ∧ va_K (dC, dI) vwCl [] U ∧ va_D (fun _ => True) [(h0, .inr (0, [.null, .int 0, .null, .null, .int 0, .int 0, .int 0]))])) (va_Qv (fun u : XS => u = (fun _ => 0, 0, fun _ => 0, fun _ => 0, 0, false, -1)) (xatt0 dC dI h0 (va_A [(h0, .inr (0, [.null, .int 0, .null, .null, .int 0, .int 0, .int 0]))] sz)) (va_A [(h0, .inr (0, [.null, .int 0, .null, .null, .int 0, .int 0, .int 0]))] sz)) 3 3001 (va_A [(h0, .inr (0, [.null, .int 0, .null, .null, .int 0, .int 0, .int 0]))] sz) := by
  refine Met.ofW (cc := cX0_init) (maxL := 1) (ret := none) (by decide) rfl ?_
  intro p e s m args below meth c s₁ B hml hv
  obtain ⟨rfl, hsz, hP, hK, hD0⟩ := hv
  have hx := B.exec
  have hb := B.bytes
  have hr := B.returns
  have hts := atoms_spec (ws := wsX0_init) B.pre
  have hown : s.vm.findClass RX0 = some m.cls := findClass_of_methodNamed B.named
  have hin : meth.name = "<init>" := (name_of_methodNamed B.named B.method).1
  subst hsz
  have hD := hD0.self (sz := s.heap.size)
  generalize hAe : va_A [(h0, .inr (0, [.null, .int 0, .null, .null, .int 0, .int 0, .int 0]))] s.heap.size = A at hD ⊢
  have hA : ∀ q : Nat, s.heap.size ≤ q → A q := fun q h => by rw [← hAe]; exact Or.inr h
  have hS : va_S A s.heap s.heap [] := va_S.rf
  have hP : va_P (dC, dI) vwCl [(h0, .inr (0, [.null, .int 0, .null, .null, .int 0, .int 0, .int 0]))] s.heap := hP
  have hD : va_D A [(h0, .inr (0, [.null, .int 0, .null, .null, .int 0, .int 0, .int 0]))] := hD
  have hIn : ∀ w ∈ wsX00, w ∈ wsX0_init := by decide +kernel
  have hl := lv_entry ([.ref h0]) (n := 1) (Nat.le_of_ble_eq_true rfl)
  rw [lg_entry_eq]
  generalize (lg_sl ([.ref h0]) ++ List.replicate (1 - (lg_sl ([.ref h0])).length) Slot.unset).toArray = ls at hl ⊢
  have hl : lv_has ls 1 [(0, .ref h0)] := hl
  refine lv_aload_n hx hb dX0_init_0 rfl (lv_at hl 0 rfl) ?_
  refine W.objInit hx hb hown (hts (.methodLink RX0 1 objectInit) (by decide +kernel)) (hts (.instanceMethod objectInit) (by decide +kernel)) (hts (.code objectInit ⟨#[0xb1]⟩ 1 none) (by decide +kernel)) rfl (by rw [hml]; exact hl.1) rfl dX0_init_1 (Nat.le_of_ble_eq_true rfl) (Nat.le_of_ble_eq_true rfl) ?_
  refine W.eq (g2 := F0 m 4 ls []) rfl ?_
  refine lv_aload_n hx hb dX0_init_4 rfl (lv_at hl 0 rfl) ?_
  refine lv_sipush (v := 1000) hx hb dX0_init_5 (by decide) ?_
  refine va_newa (a0 := (1000, .inl (fun _ => 0))) (N' := 1000) hx hb (hts (.arrayClass .int) (by decide +kernel)) rfl hK hP hD hS hA (fun _ => rfl) (by decide) (by decide) (by decide) (Nat.le_of_ble_eq_true rfl) (Nat.le_of_ble_eq_true rfl) dX0_init_8 (fun a_1 cA_1 H hK hP hD hS => ?_)
  have hK : va_K (dC, dI) vwCl [(cA_1, .int)] s := hK
  have hP : va_P (dC, dI) vwCl [(h0, .inr (0, [.null, .int 0, .null, .null, .int 0, .int 0, .int 0])), (a_1, .inl (cA_1, 1000, .inl (fun _ => 0)))] H := hP
  have hD : va_D A [(h0, .inr (0, [.null, .int 0, .null, .null, .int 0, .int 0, .int 0])), (a_1, .inl (cA_1, 1000, .inl (fun _ => 0)))] := hD
  refine va_putF (D := (dC, dI)) (ci := 0) (v := .ref a_1) (ty := (.array .int)) (C := RX0) (T := TX0) (N := 7) hx hb hts hIn tyX0 tyX0_ok nmX0 hown hK hP hD hS 0 rfl rfl 0 (by decide) (hts (.fieldLink RX0 9 RX0 "text" "[I") (by decide +kernel)) (fun _ h9 => h9) rfl hin rfl (by decide +kernel) rfl rfl (Nat.le_of_ble_eq_true rfl) dX0_init_10 (fun H locs hP hD hS => ?_)
  have hP : va_P (dC, dI) vwCl [(h0, .inr (0, [.ref a_1, .int 0, .null, .null, .int 0, .int 0, .int 0])), (a_1, .inl (cA_1, 1000, .inl (fun _ => 0)))] H := hP
  have hD : va_D A [(h0, .inr (0, [.ref a_1, .int 0, .null, .null, .int 0, .int 0, .int 0])), (a_1, .inl (cA_1, 1000, .inl (fun _ => 0)))] := hD
  refine lv_aload_n hx hb dX0_init_13 rfl (lv_at hl 0 rfl) ?_
  refine lv_sipush (v := 1000) hx hb dX0_init_14 (by decide) ?_
  refine va_newa (a0 := (1000, .inl (fun _ => 0))) (N' := 1000) hx hb (hts (.arrayClass .int) (by decide +kernel)) rfl hK hP hD hS hA (fun _ => rfl) (by decide) (by decide) (by decide) (Nat.le_of_ble_eq_true rfl) (Nat.le_of_ble_eq_true rfl) dX0_init_17 (fun a_2 cA_2 H hK hP hD hS => ?_)
  have hK : va_K (dC, dI) vwCl [(cA_1, .int), (cA_2, .int)] s := hK
  have hP : va_P (dC, dI) vwCl [(h0, .inr (0, [.ref a_1, .int 0, .null, .null, .int 0, .int 0, .int 0])), (a_1, .inl (cA_1, 1000, .inl (fun _ => 0))), (a_2, .inl (cA_2, 1000, .inl (fun _ => 0)))] H := hP
  have hD : va_D A [(h0, .inr (0, [.ref a_1, .int 0, .null, .null, .int 0, .int 0, .int 0])), (a_1, .inl (cA_1, 1000, .inl (fun _ => 0))), (a_2, .inl (cA_2, 1000, .inl (fun _ => 0)))] := hD
  obtain rfl : cA_1 = cA_2 := va_cAeq hK
  have hK : va_K (dC, dI) vwCl [(cA_1, .int)] s := hK.sub [0] rfl
  have hP : va_P (dC, dI) vwCl [(h0, .inr (0, [.ref a_1, .int 0, .null, .null, .int 0, .int 0, .int 0])), (a_1, .inl (cA_1, 1000, .inl (fun _ => 0))), (a_2, .inl (cA_1, 1000, .inl (fun _ => 0)))] H := hP
  have hD : va_D A [(h0, .inr (0, [.ref a_1, .int 0, .null, .null, .int 0, .int 0, .int 0])), (a_1, .inl (cA_1, 1000, .inl (fun _ => 0))), (a_2, .inl (cA_1, 1000, .inl (fun _ => 0)))] := hD
  refine va_putF (D := (dC, dI)) (ci := 0) (v := .ref a_2) (ty := (.array .int)) (C := RX0) (T := TX0) (N := 7) hx hb hts hIn tyX0 tyX0_ok nmX0 hown hK hP hD hS 0 rfl rfl 2 (by decide) (hts (.fieldLink RX0 13 RX0 "characters" "[I") (by decide +kernel)) (fun _ h9 => h9) rfl hin rfl (by decide +kernel) rfl rfl (Nat.le_of_ble_eq_true rfl) dX0_init_19 (fun H locs hP hD hS => ?_)
  have hP : va_P (dC, dI) vwCl [(h0, .inr (0, [.ref a_1, .int 0, .ref a_2, .null, .int 0, .int 0, .int 0])), (a_1, .inl (cA_1, 1000, .inl (fun _ => 0))), (a_2, .inl (cA_1, 1000, .inl (fun _ => 0)))] H := hP
  have hD : va_D A [(h0, .inr (0, [.ref a_1, .int 0, .ref a_2, .null, .int 0, .int 0, .int 0])), (a_1, .inl (cA_1, 1000, .inl (fun _ => 0))), (a_2, .inl (cA_1, 1000, .inl (fun _ => 0)))] := hD
  refine lv_aload_n hx hb dX0_init_22 rfl (lv_at hl 0 rfl) ?_
  refine lv_sipush (v := 1001) hx hb dX0_init_23 (by decide) ?_
  refine va_newa (a0 := (1001, .inl (fun _ => 0))) (N' := 1001) hx hb (hts (.arrayClass .int) (by decide +kernel)) rfl hK hP hD hS hA (fun _ => rfl) (by decide) (by decide) (by decide) (Nat.le_of_ble_eq_true rfl) (Nat.le_of_ble_eq_true rfl) dX0_init_26 (fun a_3 cA_3 H hK hP hD hS => ?_)
  have hK : va_K (dC, dI) vwCl [(cA_1, .int), (cA_3, .int)] s := hK
  have hP : va_P (dC, dI) vwCl [(h0, .inr (0, [.ref a_1, .int 0, .ref a_2, .null, .int 0, .int 0, .int 0])), (a_1, .inl (cA_1, 1000, .inl (fun _ => 0))), (a_2, .inl (cA_1, 1000, .inl (fun _ => 0))), (a_3, .inl (cA_3, 1001, .inl (fun _ => 0)))] H := hP
  have hD : va_D A [(h0, .inr (0, [.ref a_1, .int 0, .ref a_2, .null, .int 0, .int 0, .int 0])), (a_1, .inl (cA_1, 1000, .inl (fun _ => 0))), (a_2, .inl (cA_1, 1000, .inl (fun _ => 0))), (a_3, .inl (cA_3, 1001, .inl (fun _ => 0)))] := hD
  obtain rfl : cA_1 = cA_3 := va_cAeq hK
  have hK : va_K (dC, dI) vwCl [(cA_1, .int)] s := hK.sub [0] rfl
  have hP : va_P (dC, dI) vwCl [(h0, .inr (0, [.ref a_1, .int 0, .ref a_2, .null, .int 0, .int 0, .int 0])), (a_1, .inl (cA_1, 1000, .inl (fun _ => 0))), (a_2, .inl (cA_1, 1000, .inl (fun _ => 0))), (a_3, .inl (cA_1, 1001, .inl (fun _ => 0)))] H := hP
  have hD : va_D A [(h0, .inr (0, [.ref a_1, .int 0, .ref a_2, .null, .int 0, .int 0, .int 0])), (a_1, .inl (cA_1, 1000, .inl (fun _ => 0))), (a_2, .inl (cA_1, 1000, .inl (fun _ => 0))), (a_3, .inl (cA_1, 1001, .inl (fun _ => 0)))] := hD
  refine va_putF (D := (dC, dI)) (ci := 0) (v := .ref a_3) (ty := (.array .int)) (C := RX0) (T := TX0) (N := 7) hx hb hts hIn tyX0 tyX0_ok nmX0 hown hK hP hD hS 0 rfl rfl 3 (by decide) (hts (.fieldLink RX0 16 RX0 "places" "[I") (by decide +kernel)) (fun _ h9 => h9) rfl hin rfl (by decide +kernel) rfl rfl (Nat.le_of_ble_eq_true rfl) dX0_init_28 (fun H locs hP hD hS => ?_)
  have hP : va_P (dC, dI) vwCl [(h0, .inr (0, [.ref a_1, .int 0, .ref a_2, .ref a_3, .int 0, .int 0, .int 0])), (a_1, .inl (cA_1, 1000, .inl (fun _ => 0))), (a_2, .inl (cA_1, 1000, .inl (fun _ => 0))), (a_3, .inl (cA_1, 1001, .inl (fun _ => 0)))] H := hP
  have hD : va_D A [(h0, .inr (0, [.ref a_1, .int 0, .ref a_2, .ref a_3, .int 0, .int 0, .int 0])), (a_1, .inl (cA_1, 1000, .inl (fun _ => 0))), (a_2, .inl (cA_1, 1000, .inl (fun _ => 0))), (a_3, .inl (cA_1, 1001, .inl (fun _ => 0)))] := hD
  refine lv_aload_n hx hb dX0_init_31 rfl (lv_at hl 0 rfl) ?_
  refine lv_iconst (v := 0) hx hb dX0_init_32 (by decide) ?_
  refine va_put (D := (dC, dI)) (ci := 0) (v := .int 0) (ty := .int) (C := RX0) (T := TX0) (N := 7) hx hb hts hIn tyX0 tyX0_ok nmX0 hown hK hP hD hS 0 rfl rfl 1 (by decide) (hts (.fieldLink RX0 19 RX0 "textLength" "I") (by decide +kernel)) (fun _ h9 => h9) rfl (by decide +kernel) rfl rfl (Nat.le_of_ble_eq_true rfl) dX0_init_33 (fun H locs hP hD hS => ?_)
  have hP : va_P (dC, dI) vwCl [(h0, .inr (0, [.ref a_1, .int 0, .ref a_2, .ref a_3, .int 0, .int 0, .int 0])), (a_1, .inl (cA_1, 1000, .inl (fun _ => 0))), (a_2, .inl (cA_1, 1000, .inl (fun _ => 0))), (a_3, .inl (cA_1, 1001, .inl (fun _ => 0)))] H := hP
  have hD : va_D A [(h0, .inr (0, [.ref a_1, .int 0, .ref a_2, .ref a_3, .int 0, .int 0, .int 0])), (a_1, .inl (cA_1, 1000, .inl (fun _ => 0))), (a_2, .inl (cA_1, 1000, .inl (fun _ => 0))), (a_3, .inl (cA_1, 1001, .inl (fun _ => 0)))] := hD
  refine lv_aload_n hx hb dX0_init_36 rfl (lv_at hl 0 rfl) ?_
  refine lv_iconst (v := 0) hx hb dX0_init_37 (by decide) ?_
  refine va_put (D := (dC, dI)) (ci := 0) (v := .int 0) (ty := .int) (C := RX0) (T := TX0) (N := 7) hx hb hts hIn tyX0 tyX0_ok nmX0 hown hK hP hD hS 0 rfl rfl 4 (by decide) (hts (.fieldLink RX0 23 RX0 "count" "I") (by decide +kernel)) (fun _ h9 => h9) rfl (by decide +kernel) rfl rfl (Nat.le_of_ble_eq_true rfl) dX0_init_38 (fun H locs hP hD hS => ?_)
  have hP : va_P (dC, dI) vwCl [(h0, .inr (0, [.ref a_1, .int 0, .ref a_2, .ref a_3, .int 0, .int 0, .int 0])), (a_1, .inl (cA_1, 1000, .inl (fun _ => 0))), (a_2, .inl (cA_1, 1000, .inl (fun _ => 0))), (a_3, .inl (cA_1, 1001, .inl (fun _ => 0)))] H := hP
  have hD : va_D A [(h0, .inr (0, [.ref a_1, .int 0, .ref a_2, .ref a_3, .int 0, .int 0, .int 0])), (a_1, .inl (cA_1, 1000, .inl (fun _ => 0))), (a_2, .inl (cA_1, 1000, .inl (fun _ => 0))), (a_3, .inl (cA_1, 1001, .inl (fun _ => 0)))] := hD
  refine lv_aload_n hx hb dX0_init_41 rfl (lv_at hl 0 rfl) ?_
  refine lv_iconst (v := 0) hx hb dX0_init_42 (by decide) ?_
  refine va_put (D := (dC, dI)) (ci := 0) (v := .int 0) (ty := .boolean) (C := RX0) (T := TX0) (N := 7) hx hb hts hIn tyX0 tyX0_ok nmX0 hown hK hP hD hS 0 rfl rfl 5 (by decide) (hts (.fieldLink RX0 26 RX0 "hasReading" "Z") (by decide +kernel)) (fun _ h9 => h9) rfl (by decide +kernel) rfl rfl (Nat.le_of_ble_eq_true rfl) dX0_init_43 (fun H locs hP hD hS => ?_)
  have hP : va_P (dC, dI) vwCl [(h0, .inr (0, [.ref a_1, .int 0, .ref a_2, .ref a_3, .int 0, .int 0, .int 0])), (a_1, .inl (cA_1, 1000, .inl (fun _ => 0))), (a_2, .inl (cA_1, 1000, .inl (fun _ => 0))), (a_3, .inl (cA_1, 1001, .inl (fun _ => 0)))] H := hP
  have hD : va_D A [(h0, .inr (0, [.ref a_1, .int 0, .ref a_2, .ref a_3, .int 0, .int 0, .int 0])), (a_1, .inl (cA_1, 1000, .inl (fun _ => 0))), (a_2, .inl (cA_1, 1000, .inl (fun _ => 0))), (a_3, .inl (cA_1, 1001, .inl (fun _ => 0)))] := hD
  refine lv_aload_n hx hb dX0_init_46 rfl (lv_at hl 0 rfl) ?_
  refine lv_iconst (v := -1) hx hb dX0_init_47 (by decide) ?_
  refine lv_topi (fun x_4 ex_4 => ?_)
  refine va_put (D := (dC, dI)) (ci := 0) (v := .int x_4) (ty := .int) (C := RX0) (T := TX0) (N := 7) hx hb hts hIn tyX0 tyX0_ok nmX0 hown hK hP hD hS 0 rfl rfl 6 (by decide) (hts (.fieldLink RX0 30 RX0 "faultPlace" "I") (by decide +kernel)) (fun _ h9 => h9) rfl (by decide +kernel) rfl rfl (Nat.le_of_ble_eq_true rfl) dX0_init_48 (fun H locs hP hD hS => ?_)
  have hP : va_P (dC, dI) vwCl [(h0, .inr (0, [.ref a_1, .int 0, .ref a_2, .ref a_3, .int 0, .int 0, .int x_4])), (a_1, .inl (cA_1, 1000, .inl (fun _ => 0))), (a_2, .inl (cA_1, 1000, .inl (fun _ => 0))), (a_3, .inl (cA_1, 1001, .inl (fun _ => 0)))] H := hP
  have hD : va_D A [(h0, .inr (0, [.ref a_1, .int 0, .ref a_2, .ref a_3, .int 0, .int 0, .int x_4])), (a_1, .inl (cA_1, 1000, .inl (fun _ => 0))), (a_2, .inl (cA_1, 1000, .inl (fun _ => 0))), (a_3, .inl (cA_1, 1001, .inl (fun _ => 0)))] := hD
  have hP9 : va_P (dC, dI) vwCl (xw h0 a_1 a_2 a_3 cA_1 ((fun _ => 0), 0, (fun _ => 0), (fun _ => 0), 0, false, x_4)) H := hP
  have hD9 : va_D A (xw h0 a_1 a_2 a_3 cA_1 ((fun _ => 0), 0, (fun _ => 0), (fun _ => 0), 0, false, x_4)) := hD
  refine W.widen (k := 3) (n := 3001) (Nat.le_of_ble_eq_true rfl) (Nat.le_of_ble_eq_true rfl) ?_
  exact W.vret hx hb hr (fun t ht hW => ⟨⟨((fun _ => 0), 0, (fun _ => 0), (fun _ => 0), 0, false, x_4), rfl, rfl, a_1, a_2, a_3, cA_1, by rw [ht]; exact hP9, va_K.moved hW.alike hK, hD9⟩, hS.F ht⟩) hS.2.2 dX0_init_51
