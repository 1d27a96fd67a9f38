set_option maxHeartbeats 4000000 in
set_option maxRecDepth 100000 in
theorem c_X0_hasRoomFor (l : Launch) (dC : Nat → ClassId) (dI : Nat → Nat → Nat) (h0 h1 h2 h3 : Nat) (cA : ClassId) (t0 t1 t2 t3 : Nat) (tx : Nat → Int32) (n : Nat) (ch pl : Nat → Int32) (k : Nat) (rl : Int32) (fp : Int32) (i : Int32) : Met l yX0_hasRoomFor wsX0_hasRoomFor ({ frames := 0, cells := 0, slots := 0, locals := 0 }) (va_Pc [.ref h0, .int i] (fun U => xpre dC dI h0 h1 h2 h3 cA t0 t1 t2 t3 (tx, n, ch, pl, k, rl, fp) U)) (vp_Si (fun r => r = bI (xRoom n i))) 0 0 (fun _ => False) := by
  refine Met.ofW (cc := cX0_hasRoomFor) (maxL := 2) (ret := (some .boolean)) (by decide) rfl ?_
  intro p e s m args below meth c s₁ B hml hv
  obtain ⟨rfl, hP, hK, hT⟩ := hv
  have hx := B.exec
  have hb := B.bytes
  have hr := B.returns
  have hts := atoms_spec (ws := wsX0_hasRoomFor) B.pre
  have hown : s.vm.findClass RX0 = some m.cls := findClass_of_methodNamed B.named
  have hS : va_S (fun _ => False) s.heap s.heap [] := va_S.rf
  have hP : va_P (dC, dI) vwCl [(h0, .inr (0, [.ref h1, .int (nI n), .ref h2, .ref h3, .int (nI k), .int rl, .int fp])), (h1, .inl (cA, 1000, .inl tx)), (h2, .inl (cA, 1000, .inl ch)), (h3, .inl (cA, 1000, .inl pl))] s.heap := hP
  have hIn : ∀ w ∈ wsX00, w ∈ wsX0_hasRoomFor := by decide +kernel
  obtain ⟨hz0, ht0, hz1, ht1, hz2, ht2, hz3, ht3⟩ := id hT
  have hl := lv_entry ([.ref h0, .int i]) (n := 2) (Nat.le_of_ble_eq_true rfl)
  rw [lg_entry_eq]
  generalize (lg_sl ([.ref h0, .int i]) ++ List.replicate (2 - (lg_sl ([.ref h0, .int i])).length) Slot.unset).toArray = ls at hl ⊢
  have hl : lv_has ls 2 [(0, .ref h0), (1, .int i)] := hl
  refine lv_iload_n hx hb dX0_hasRoomFor_0 rfl (lv_at hl 1 rfl) ?_
  refine lv_sipush (v := 1000) hx hb dX0_hasRoomFor_1 (by decide) ?_
  refine lv_aload_n hx hb dX0_hasRoomFor_4 rfl (lv_at hl 0 rfl) ?_
  refine va_get (D := (dC, dI)) (ci := 0) (v := .int (nI n)) (C := RX0) (T := TX0) (N := 7) hx hb hts hIn hown hK hP 0 rfl rfl 1 (by decide) (hts (.fieldLink RX0 19 RX0 "textLength" "I") (by decide +kernel)) (fun _ h9 => h9) rfl dX0_hasRoomFor_5 ?_
  refine lv_isub hx hb dX0_hasRoomFor_8 ?_
  refine lv_icmp_gt (tgt := 16) hx hb dX0_hasRoomFor_9 (by decide) (fun c_1 => ?_) (fun c_1 => ?_)
  · refine lv_iconst (v := 0) hx hb dX0_hasRoomFor_16 (by decide) ?_
    exact W.zret (v := 0) (ty := .boolean) hx hb hr (rfl) (fun t ht hW => ⟨0, rfl, by first | (simp only [xRoom, if_pos c_1, bI_t, bI_f]; done) | (simp only [xRoom, if_pos c_1, bI_t, bI_f]; rfl), ht⟩) hS.2.2 dX0_hasRoomFor_17
  · refine lv_iconst (v := 1) hx hb dX0_hasRoomFor_12 (by decide) ?_
    refine lv_goto (tgt := 17) hx hb dX0_hasRoomFor_13 (by decide) ?_
    exact W.zret (v := 1) (ty := .boolean) hx hb hr (rfl) (fun t ht hW => ⟨1, rfl, by first | (simp only [xRoom, if_neg c_1, bI_t, bI_f]; done) | (simp only [xRoom, if_neg c_1, bI_t, bI_f]; rfl), ht⟩) hS.2.2 dX0_hasRoomFor_17
set_option maxHeartbeats 4000000 in
set_option maxRecDepth 100000 in
theorem c_X0_hasCharacter (l : Launch) (dC : Nat → ClassId) (dI : Nat → Nat → Nat) (h0 h1 h2 h3 : Nat) (cA : ClassId) (t0 t1 t2 t3 : Nat) (tx : Nat → Int32) (n : Nat) (ch pl : Nat → Int32) (k : Nat) (rl : Int32) (fp : Int32) (i : Int32) : Met l yX0_hasCharacter wsX0_hasCharacter ({ frames := 0, cells := 0, slots := 0, locals := 0 }) (va_Pc [.ref h0, .int i] (fun U => xpre dC dI h0 h1 h2 h3 cA t0 t1 t2 t3 (tx, n, ch, pl, k, rl, fp) U)) (vp_Si (fun r => r = bI (xHas k i))) 0 0 (fun _ => False) := by
  refine Met.ofW (cc := cX0_hasCharacter) (maxL := 2) (ret := (some .boolean)) (by decide) rfl ?_
  intro p e s m args below meth c s₁ B hml hv
  obtain ⟨rfl, hP, hK, hT⟩ := hv
  have hx := B.exec
  have hb := B.bytes
  have hr := B.returns
  have hts := atoms_spec (ws := wsX0_hasCharacter) B.pre
  have hown : s.vm.findClass RX0 = some m.cls := findClass_of_methodNamed B.named
  have hS : va_S (fun _ => False) s.heap s.heap [] := va_S.rf
  have hP : va_P (dC, dI) vwCl [(h0, .inr (0, [.ref h1, .int (nI n), .ref h2, .ref h3, .int (nI k), .int rl, .int fp])), (h1, .inl (cA, 1000, .inl tx)), (h2, .inl (cA, 1000, .inl ch)), (h3, .inl (cA, 1000, .inl pl))] s.heap := hP
  have hIn : ∀ w ∈ wsX00, w ∈ wsX0_hasCharacter := by decide +kernel
  obtain ⟨hz0, ht0, hz1, ht1, hz2, ht2, hz3, ht3⟩ := id hT
  have hl := lv_entry ([.ref h0, .int i]) (n := 2) (Nat.le_of_ble_eq_true rfl)
  rw [lg_entry_eq]
  generalize (lg_sl ([.ref h0, .int i]) ++ List.replicate (2 - (lg_sl ([.ref h0, .int i])).length) Slot.unset).toArray = ls at hl ⊢
  have hl : lv_has ls 2 [(0, .ref h0), (1, .int i)] := hl
  refine lv_iload_n hx hb dX0_hasCharacter_0 rfl (lv_at hl 1 rfl) ?_
  refine lv_if_lt (tgt := 16) hx hb dX0_hasCharacter_1 (by decide) (fun c_1 => ?_) (fun c_1 => ?_)
  · refine lv_iconst (v := 0) hx hb dX0_hasCharacter_16 (by decide) ?_
    exact W.zret (v := 0) (ty := .boolean) hx hb hr (rfl) (fun t ht hW => ⟨0, rfl, by first | (simp only [xHas, if_pos c_1, bI_t, bI_f]; done) | (simp only [xHas, if_pos c_1, bI_t, bI_f]; rfl), ht⟩) hS.2.2 dX0_hasCharacter_17
  · refine lv_iload_n hx hb dX0_hasCharacter_4 rfl (lv_at hl 1 rfl) ?_
    refine lv_aload_n hx hb dX0_hasCharacter_5 rfl (lv_at hl 0 rfl) ?_
    refine va_get (D := (dC, dI)) (ci := 0) (v := .int (nI k)) (C := RX0) (T := TX0) (N := 7) hx hb hts hIn hown hK hP 0 rfl rfl 4 (by decide) (hts (.fieldLink RX0 23 RX0 "count" "I") (by decide +kernel)) (fun _ h9 => h9) rfl dX0_hasCharacter_6 ?_
    refine lv_icmp_ge (tgt := 16) hx hb dX0_hasCharacter_9 (by decide) (fun c_2 => ?_) (fun c_2 => ?_)
    · refine lv_iconst (v := 0) hx hb dX0_hasCharacter_16 (by decide) ?_
      exact W.zret (v := 0) (ty := .boolean) hx hb hr (rfl) (fun t ht hW => ⟨0, rfl, by first | (simp only [xHas, if_neg c_1, if_pos c_2, bI_t, bI_f]; done) | (simp only [xHas, if_neg c_1, if_pos c_2, bI_t, bI_f]; rfl), ht⟩) hS.2.2 dX0_hasCharacter_17
    · refine lv_iconst (v := 1) hx hb dX0_hasCharacter_12 (by decide) ?_
      refine lv_goto (tgt := 17) hx hb dX0_hasCharacter_13 (by decide) ?_
      exact W.zret (v := 1) (ty := .boolean) hx hb hr (rfl) (fun t ht hW => ⟨1, rfl, by first | (simp only [xHas, if_neg c_1, if_neg c_2, bI_t, bI_f]; done) | (simp only [xHas, if_neg c_1, if_neg c_2, bI_t, bI_f]; rfl), ht⟩) hS.2.2 dX0_hasCharacter_17
set_option maxHeartbeats 4000000 in
set_option maxRecDepth 100000 in
theorem c_X0_hasStretch (l : Launch) (dC : Nat → ClassId) (dI : Nat → Nat → Nat) (h0 h1 h2 h3 : Nat) (cA : ClassId) (t0 t1 t2 t3 : Nat) (tx : Nat → Int32) (n : Nat) (ch pl : Nat → Int32) (k : Nat) (rl : Int32) (fp : Int32) (i q : Int32) : Met l yX0_hasStretch wsX0_hasStretch ({ frames := 0, cells := 0, slots := 0, locals := 0 }) (va_Pc [.ref h0, .int i, .int q] (fun U => xpre dC dI h0 h1 h2 h3 cA t0 t1 t2 t3 (tx, n, ch, pl, k, rl, fp) U)) (vp_Si (fun r => r = bI (xStr rl k i q))) 0 0 (fun _ => False) := by
  refine Met.ofW (cc := cX0_hasStretch) (maxL := 3) (ret := (some .boolean)) (by decide) rfl ?_
  intro p e s m args below meth c s₁ B hml hv
  obtain ⟨rfl, hP, hK, hT⟩ := hv
  have hx := B.exec
  have hb := B.bytes
  have hr := B.returns
  have hts := atoms_spec (ws := wsX0_hasStretch) B.pre
  have hown : s.vm.findClass RX0 = some m.cls := findClass_of_methodNamed B.named
  have hS : va_S (fun _ => False) s.heap s.heap [] := va_S.rf
  have hP : va_P (dC, dI) vwCl [(h0, .inr (0, [.ref h1, .int (nI n), .ref h2, .ref h3, .int (nI k), .int rl, .int fp])), (h1, .inl (cA, 1000, .inl tx)), (h2, .inl (cA, 1000, .inl ch)), (h3, .inl (cA, 1000, .inl pl))] s.heap := hP
  have hIn : ∀ w ∈ wsX00, w ∈ wsX0_hasStretch := by decide +kernel
  obtain ⟨hz0, ht0, hz1, ht1, hz2, ht2, hz3, ht3⟩ := id hT
  have hl := lv_entry ([.ref h0, .int i, .int q]) (n := 3) (Nat.le_of_ble_eq_true rfl)
  rw [lg_entry_eq]
  generalize (lg_sl ([.ref h0, .int i, .int q]) ++ List.replicate (3 - (lg_sl ([.ref h0, .int i, .int q])).length) Slot.unset).toArray = ls at hl ⊢
  have hl : lv_has ls 3 [(0, .ref h0), (1, .int i), (2, .int q)] := hl
  refine lv_aload_n hx hb dX0_hasStretch_0 rfl (lv_at hl 0 rfl) ?_
  refine va_get (D := (dC, dI)) (ci := 0) (v := .int rl) (C := RX0) (T := TX0) (N := 7) hx hb hts hIn hown hK hP 0 rfl rfl 5 (by decide) (hts (.fieldLink RX0 26 RX0 "readLength" "I") (by decide +kernel)) (fun _ h9 => h9) rfl dX0_hasStretch_1 ?_
  refine lv_iconst (v := -1) hx hb dX0_hasStretch_4 (by decide) ?_
  refine lv_icmp_eq (tgt := 30) hx hb dX0_hasStretch_5 (by decide) (fun c_1 => ?_) (fun c_1 => ?_)
  · refine lv_iconst (v := 0) hx hb dX0_hasStretch_30 (by decide) ?_
    exact W.zret (v := 0) (ty := .boolean) hx hb hr (rfl) (fun t ht hW => ⟨0, rfl, by first | (simp only [xStr, if_pos c_1, bI_t, bI_f]; done) | (simp only [xStr, if_pos c_1, bI_t, bI_f]; rfl), ht⟩) hS.2.2 dX0_hasStretch_31
  · refine lv_iload_n hx hb dX0_hasStretch_8 rfl (lv_at hl 2 rfl) ?_
    refine lv_if_lt (tgt := 30) hx hb dX0_hasStretch_9 (by decide) (fun c_2 => ?_) (fun c_2 => ?_)
    · refine lv_iconst (v := 0) hx hb dX0_hasStretch_30 (by decide) ?_
      exact W.zret (v := 0) (ty := .boolean) hx hb hr (rfl) (fun t ht hW => ⟨0, rfl, by first | (simp only [xStr, if_neg c_1, if_pos c_2, bI_t, bI_f]; done) | (simp only [xStr, if_neg c_1, if_pos c_2, bI_t, bI_f]; rfl), ht⟩) hS.2.2 dX0_hasStretch_31
    · refine lv_iload_n hx hb dX0_hasStretch_12 rfl (lv_at hl 1 rfl) ?_
      refine lv_if_lt (tgt := 30) hx hb dX0_hasStretch_13 (by decide) (fun c_3 => ?_) (fun c_3 => ?_)
      · refine lv_iconst (v := 0) hx hb dX0_hasStretch_30 (by decide) ?_
        exact W.zret (v := 0) (ty := .boolean) hx hb hr (rfl) (fun t ht hW => ⟨0, rfl, by first | (simp only [xStr, if_neg c_1, if_neg c_2, if_pos c_3, bI_t, bI_f]; done) | (simp only [xStr, if_neg c_1, if_neg c_2, if_pos c_3, bI_t, bI_f]; rfl), ht⟩) hS.2.2 dX0_hasStretch_31
      · refine lv_iload_n hx hb dX0_hasStretch_16 rfl (lv_at hl 1 rfl) ?_
        refine lv_aload_n hx hb dX0_hasStretch_17 rfl (lv_at hl 0 rfl) ?_
        refine va_get (D := (dC, dI)) (ci := 0) (v := .int (nI k)) (C := RX0) (T := TX0) (N := 7) hx hb hts hIn hown hK hP 0 rfl rfl 4 (by decide) (hts (.fieldLink RX0 23 RX0 "count" "I") (by decide +kernel)) (fun _ h9 => h9) rfl dX0_hasStretch_18 ?_
        refine lv_iload_n hx hb dX0_hasStretch_21 rfl (lv_at hl 2 rfl) ?_
        refine lv_isub hx hb dX0_hasStretch_22 ?_
        refine lv_icmp_gt (tgt := 30) hx hb dX0_hasStretch_23 (by decide) (fun c_4 => ?_) (fun c_4 => ?_)
        · refine lv_iconst (v := 0) hx hb dX0_hasStretch_30 (by decide) ?_
          exact W.zret (v := 0) (ty := .boolean) hx hb hr (rfl) (fun t ht hW => ⟨0, rfl, by first | (simp only [xStr, if_neg c_1, if_neg c_2, if_neg c_3, if_pos c_4, bI_t, bI_f]; done) | (simp only [xStr, if_neg c_1, if_neg c_2, if_neg c_3, if_pos c_4, bI_t, bI_f]; rfl), ht⟩) hS.2.2 dX0_hasStretch_31
        · refine lv_iconst (v := 1) hx hb dX0_hasStretch_26 (by decide) ?_
          refine lv_goto (tgt := 31) hx hb dX0_hasStretch_27 (by decide) ?_
          exact W.zret (v := 1) (ty := .boolean) hx hb hr (rfl) (fun t ht hW => ⟨1, rfl, by first | (simp only [xStr, if_neg c_1, if_neg c_2, if_neg c_3, if_neg c_4, bI_t, bI_f]; done) | (simp only [xStr, if_neg c_1, if_neg c_2, if_neg c_3, if_neg c_4, bI_t, bI_f]; rfl), ht⟩) hS.2.2 dX0_hasStretch_31
set_option maxHeartbeats 4000000 in
set_option maxRecDepth 100000 in
theorem c_X0_place (l : Launch) (dC : Nat → ClassId) (dI : Nat → Nat → Nat) (h0 h1 h2 h3 : Nat) (cA : ClassId) (t0 t1 t2 t3 : Nat) (tx : Nat → Int32) (n : Nat) (ch pl : Nat → Int32) (k : Nat) (rl : Int32) (fp : Int32)  : Met l yX0_place wsX0_place ({ frames := 0, cells := 0, slots := 0, locals := 0 }) (va_Pc [.ref h0] (fun U => xpre dC dI h0 h1 h2 h3 cA t0 t1 t2 t3 (tx, n, ch, pl, k, rl, fp) U)) (vp_Si (fun r => r = fp)) 0 0 (fun _ => False) := by
  refine Met.ofW (cc := cX0_place) (maxL := 1) (ret := (some .int)) (by decide) rfl ?_
  intro p e s m args below meth c s₁ B hml hv
  obtain ⟨rfl, hP, hK, hT⟩ := hv
  have hx := B.exec
  have hb := B.bytes
  have hr := B.returns
  have hts := atoms_spec (ws := wsX0_place) B.pre
  have hown : s.vm.findClass RX0 = some m.cls := findClass_of_methodNamed B.named
  have hS : va_S (fun _ => False) s.heap s.heap [] := va_S.rf
  have hP : va_P (dC, dI) vwCl [(h0, .inr (0, [.ref h1, .int (nI n), .ref h2, .ref h3, .int (nI k), .int rl, .int fp])), (h1, .inl (cA, 1000, .inl tx)), (h2, .inl (cA, 1000, .inl ch)), (h3, .inl (cA, 1000, .inl pl))] s.heap := hP
  have hIn : ∀ w ∈ wsX00, w ∈ wsX0_place := by decide +kernel
  obtain ⟨hz0, ht0, hz1, ht1, hz2, ht2, hz3, ht3⟩ := id hT
  have hl := lv_entry ([.ref h0]) (n := 1) (Nat.le_of_ble_eq_true rfl)
  rw [lg_entry_eq]
  generalize (lg_sl ([.ref h0]) ++ List.replicate (1 - (lg_sl ([.ref h0])).length) Slot.unset).toArray = ls at hl ⊢
  have hl : lv_has ls 1 [(0, .ref h0)] := hl
  refine lv_aload_n hx hb dX0_place_0 rfl (lv_at hl 0 rfl) ?_
  refine va_get (D := (dC, dI)) (ci := 0) (v := .int fp) (C := RX0) (T := TX0) (N := 7) hx hb hts hIn hown hK hP 0 rfl rfl 6 (by decide) (hts (.fieldLink RX0 29 RX0 "faultPlace" "I") (by decide +kernel)) (fun _ h9 => h9) rfl dX0_place_1 ?_
  exact W.iret (v := fp) hx hb hr (fun t ht hW => ⟨fp, rfl, rfl, ht⟩) hS.2.2 dX0_place_4
set_option maxHeartbeats 4000000 in
set_option maxRecDepth 100000 in
theorem c_X0_at (l : Launch) (dC : Nat → ClassId) (dI : Nat → Nat → Nat) (h0 h1 h2 h3 : Nat) (cA : ClassId) (t0 t1 t2 t3 : Nat) (tx : Nat → Int32) (n : Nat) (ch pl : Nat → Int32) (k : Nat) (rl : Int32) (fp : Int32) (i : Int32) (hk : k ≤ 1000) : Met l yX0_at wsX0_at ({ frames := 1, cells := 0, slots := 0, locals := 21 }) (va_Pc [.ref h0, .int i] (fun U => xpre dC dI h0 h1 h2 h3 cA t0 t1 t2 t3 (tx, n, ch, pl, k, rl, fp) U)) (vp_Si (fun r => r = xAt ch k i)) 0 0 (fun _ => False) := by
  refine Met.ofW (cc := cX0_at) (maxL := 2) (ret := (some .int)) (by decide) rfl ?_
  intro p e s m args below meth c s₁ B hml hv
  obtain ⟨rfl, hP, hK, hT⟩ := hv
  have hx := B.exec
  have hb := B.bytes
  have hr := B.returns
  have hts := atoms_spec (ws := wsX0_at) B.pre
  have hown : s.vm.findClass RX0 = some m.cls := findClass_of_methodNamed B.named
  have hS : va_S (fun _ => False) s.heap s.heap [] := va_S.rf
  have hP : va_P (dC, dI) vwCl [(h0, .inr (0, [.ref h1, .int (nI n), .ref h2, .ref h3, .int (nI k), .int rl, .int fp])), (h1, .inl (cA, 1000, .inl tx)), (h2, .inl (cA, 1000, .inl ch)), (h3, .inl (cA, 1000, .inl pl))] s.heap := hP
  have hIn : ∀ w ∈ wsX00, w ∈ wsX0_at := by decide +kernel
  obtain ⟨hz0, ht0, hz1, ht1, hz2, ht2, hz3, ht3⟩ := id hT
  have hl := lv_entry ([.ref h0, .int i]) (n := 2) (Nat.le_of_ble_eq_true rfl)
  rw [lg_entry_eq]
  generalize (lg_sl ([.ref h0, .int i]) ++ List.replicate (2 - (lg_sl ([.ref h0, .int i])).length) Slot.unset).toArray = ls at hl ⊢
  have hl : lv_has ls 2 [(0, .ref h0), (1, .int i)] := hl
  refine lv_aload_n hx hb dX0_at_0 rfl (lv_at hl 0 rfl) ?_
  refine lv_iload_n hx hb dX0_at_1 rfl (lv_at hl 1 rfl) ?_
  refine vp_callSi (W.runV (As := [.int i]) (rest := []) ⟨hx, hb, hml, hown, hts⟩ (c_X0_hasCharacter l dC dI h0 h1 h2 h3 cA t0 t1 t2 t3 tx n ch pl k rl fp i) (cwV 1 hts gX0_at_X0_hasCharacter rfl rfl rfl (by decide +kernel) ⟨Nat.le_of_ble_eq_true rfl, Nat.le_of_ble_eq_true rfl⟩) ⟨xpre_blind, va_recv hK hP (ci := 0) (q0 := 0) rfl rfl, fun U hU hW => ⟨rfl, xpre_of hP hK hT hS hU hW⟩⟩ rfl rfl hl.1 rfl (lv_room (Nat.le_of_ble_eq_true rfl)) dX0_at_2 ⟨Nat.le_of_ble_eq_true rfl, Nat.le_of_ble_eq_true rfl⟩) (fun r_1 er_1 => ?_)
  obtain rfl : r_1 = bI (xHas k i) := er_1
  refine lv_if_eq (tgt := 17) hx hb dX0_at_5 (by decide) (fun c_2 => ?_) (fun c_2 => ?_)
  · have c_2 := bI_0 c_2
    refine lv_iconst (v := -1) hx hb dX0_at_17 (by decide) ?_
    exact W.iret (v := (-1)) hx hb hr (fun t ht hW => ⟨(-1), rfl, by first | (simp only [xAt, if_neg c_2, bI_t, bI_f]; done) | (simp only [xAt, if_neg c_2, bI_t, bI_f]; rfl), ht⟩) hS.2.2 dX0_at_18
  · have c_2 := bI_n0 c_2
    refine lv_aload_n hx hb dX0_at_8 rfl (lv_at hl 0 rfl) ?_
    refine va_get (D := (dC, dI)) (ci := 0) (v := .ref h2) (C := RX0) (T := TX0) (N := 7) hx hb hts hIn hown hK hP 0 rfl rfl 2 (by decide) (hts (.fieldLink RX0 13 RX0 "characters" "[I") (by decide +kernel)) (fun _ h9 => h9) rfl dX0_at_9 ?_
    refine lv_iload_n hx hb dX0_at_12 rfl (lv_at hl 1 rfl) ?_
    refine va_iald hx hb hK hP 2 0 rfl rfl (xHas_in hk c_2 (by decide)) dX0_at_13 ?_
    refine lv_goto (tgt := 18) hx hb dX0_at_14 (by decide) ?_
    exact W.iret (v := ch i.toNatClampNeg) hx hb hr (fun t ht hW => ⟨ch i.toNatClampNeg, rfl, by first | (simp only [xAt, if_pos c_2, bI_t, bI_f]; done) | (simp only [xAt, if_pos c_2, bI_t, bI_f]; rfl), ht⟩) hS.2.2 dX0_at_18
set_option maxHeartbeats 4000000 in
set_option maxRecDepth 100000 in
theorem c_X0_placeOf (l : Launch) (dC : Nat → ClassId) (dI : Nat → Nat → Nat) (h0 h1 h2 h3 : Nat) (cA : ClassId) (t0 t1 t2 t3 : Nat) (tx : Nat → Int32) (n : Nat) (ch pl : Nat → Int32) (k : Nat) (rl : Int32) (fp : Int32) (i : Int32) (hk : k ≤ 1000) : Met l yX0_placeOf wsX0_placeOf ({ frames := 1, cells := 0, slots := 0, locals := 21 }) (va_Pc [.ref h0, .int i] (fun U => xpre dC dI h0 h1 h2 h3 cA t0 t1 t2 t3 (tx, n, ch, pl, k, rl, fp) U)) (vp_Si (fun r => r = xPlc rl pl k i)) 0 0 (fun _ => False) := by
  refine Met.ofW (cc := cX0_placeOf) (maxL := 2) (ret := (some .int)) (by decide) rfl ?_
  intro p e s m args below meth c s₁ B hml hv
  obtain ⟨rfl, hP, hK, hT⟩ := hv
  have hx := B.exec
  have hb := B.bytes
  have hr := B.returns
  have hts := atoms_spec (ws := wsX0_placeOf) B.pre
  have hown : s.vm.findClass RX0 = some m.cls := findClass_of_methodNamed B.named
  have hS : va_S (fun _ => False) s.heap s.heap [] := va_S.rf
  have hP : va_P (dC, dI) vwCl [(h0, .inr (0, [.ref h1, .int (nI n), .ref h2, .ref h3, .int (nI k), .int rl, .int fp])), (h1, .inl (cA, 1000, .inl tx)), (h2, .inl (cA, 1000, .inl ch)), (h3, .inl (cA, 1000, .inl pl))] s.heap := hP
  have hIn : ∀ w ∈ wsX00, w ∈ wsX0_placeOf := by decide +kernel
  obtain ⟨hz0, ht0, hz1, ht1, hz2, ht2, hz3, ht3⟩ := id hT
  have hl := lv_entry ([.ref h0, .int i]) (n := 2) (Nat.le_of_ble_eq_true rfl)
  rw [lg_entry_eq]
  generalize (lg_sl ([.ref h0, .int i]) ++ List.replicate (2 - (lg_sl ([.ref h0, .int i])).length) Slot.unset).toArray = ls at hl ⊢
  have hl : lv_has ls 2 [(0, .ref h0), (1, .int i)] := hl
  refine lv_aload_n hx hb dX0_placeOf_0 rfl (lv_at hl 0 rfl) ?_
  refine lv_iload_n hx hb dX0_placeOf_1 rfl (lv_at hl 1 rfl) ?_
  refine vp_callSi (W.runV (As := [.int i]) (rest := []) ⟨hx, hb, hml, hown, hts⟩ (c_X0_hasCharacter l dC dI h0 h1 h2 h3 cA t0 t1 t2 t3 tx n ch pl k rl fp i) (cwV 1 hts gX0_placeOf_X0_hasCharacter rfl rfl rfl (by decide +kernel) ⟨Nat.le_of_ble_eq_true rfl, Nat.le_of_ble_eq_true rfl⟩) ⟨xpre_blind, va_recv hK hP (ci := 0) (q0 := 0) rfl rfl, fun U hU hW => ⟨rfl, xpre_of hP hK hT hS hU hW⟩⟩ rfl rfl hl.1 rfl (lv_room (Nat.le_of_ble_eq_true rfl)) dX0_placeOf_2 ⟨Nat.le_of_ble_eq_true rfl, Nat.le_of_ble_eq_true rfl⟩) (fun r_1 er_1 => ?_)
  obtain rfl : r_1 = bI (xHas k i) := er_1
  refine lv_if_eq (tgt := 15) hx hb dX0_placeOf_5 (by decide) (fun c_2 => ?_) (fun c_2 => ?_)
  · have c_2 := bI_0 c_2
    refine lv_iload_n hx hb dX0_placeOf_15 rfl (lv_at hl 1 rfl) ?_
    refine lv_aload_n hx hb dX0_placeOf_16 rfl (lv_at hl 0 rfl) ?_
    refine va_get (D := (dC, dI)) (ci := 0) (v := .int (nI k)) (C := RX0) (T := TX0) (N := 7) hx hb hts hIn hown hK hP 0 rfl rfl 4 (by decide) (hts (.fieldLink RX0 23 RX0 "count" "I") (by decide +kernel)) (fun _ h9 => h9) rfl dX0_placeOf_17 ?_
    refine lv_icmp_ne (tgt := 30) hx hb dX0_placeOf_20 (by decide) (fun c_3 => ?_) (fun c_3 => ?_)
    · refine lv_iconst (v := -1) hx hb dX0_placeOf_30 (by decide) ?_
      exact W.iret (v := (-1)) hx hb hr (fun t ht hW => ⟨(-1), rfl, by first | (simp only [xPlc, if_neg c_2, if_neg c_3, bI_t, bI_f]; done) | (simp only [xPlc, if_neg c_2, if_neg c_3, bI_t, bI_f]; rfl), ht⟩) hS.2.2 dX0_placeOf_31
    · refine lv_aload_n hx hb dX0_placeOf_23 rfl (lv_at hl 0 rfl) ?_
      refine va_get (D := (dC, dI)) (ci := 0) (v := .int rl) (C := RX0) (T := TX0) (N := 7) hx hb hts hIn hown hK hP 0 rfl rfl 5 (by decide) (hts (.fieldLink RX0 26 RX0 "readLength" "I") (by decide +kernel)) (fun _ h9 => h9) rfl dX0_placeOf_24 ?_
      refine lv_goto (tgt := 31) hx hb dX0_placeOf_27 (by decide) ?_
      exact W.iret (v := rl) hx hb hr (fun t ht hW => ⟨rl, rfl, by first | (simp only [xPlc, if_neg c_2, if_pos c_3, bI_t, bI_f]; done) | (simp only [xPlc, if_neg c_2, if_pos c_3, bI_t, bI_f]; rfl), ht⟩) hS.2.2 dX0_placeOf_31
  · have c_2 := bI_n0 c_2
    refine lv_aload_n hx hb dX0_placeOf_8 rfl (lv_at hl 0 rfl) ?_
    refine va_get (D := (dC, dI)) (ci := 0) (v := .ref h3) (C := RX0) (T := TX0) (N := 7) hx hb hts hIn hown hK hP 0 rfl rfl 3 (by decide) (hts (.fieldLink RX0 16 RX0 "places" "[I") (by decide +kernel)) (fun _ h9 => h9) rfl dX0_placeOf_9 ?_
    refine lv_iload_n hx hb dX0_placeOf_12 rfl (lv_at hl 1 rfl) ?_
    refine va_iald hx hb hK hP 3 0 rfl rfl (xHas_in hk c_2 (by decide)) dX0_placeOf_13 ?_
    exact W.iret (v := pl i.toNatClampNeg) hx hb hr (fun t ht hW => ⟨pl i.toNatClampNeg, rfl, by first | (simp only [xPlc, if_pos c_2, bI_t, bI_f]; done) | (simp only [xPlc, if_pos c_2, bI_t, bI_f]; rfl), ht⟩) hS.2.2 dX0_placeOf_14
set_option maxHeartbeats 4000000 in
set_option maxRecDepth 100000 in
theorem c_X0_kind (l : Launch) (dC : Nat → ClassId) (dI : Nat → Nat → Nat) (h0 h1 h2 h3 : Nat) (cA : ClassId) (t0 t1 t2 t3 : Nat) (tx : Nat → Int32) (n : Nat) (ch pl : Nat → Int32) (k : Nat) (rl : Int32) (fp : Int32) (v : Int32) : Met l yX0_kind wsX0_kind ({ frames := 2, cells := 0, slots := 0, locals := 42 }) (va_Pc [.ref h0, .int v] (fun U => xpre dC dI h0 h1 h2 h3 cA t0 t1 t2 t3 (tx, n, ch, pl, k, rl, fp) U)) (vp_Si (fun r => r = xKind v)) 0 0 (fun _ => False) := by
  refine Met.ofW (cc := cX0_kind) (maxL := 3) (ret := (some .int)) (by decide) rfl ?_
  intro p e s m args below meth c s₁ B hml hv
  obtain ⟨rfl, hP, hK, hT⟩ := hv
  have hx := B.exec
  have hb := B.bytes
  have hr := B.returns
  have hts := atoms_spec (ws := wsX0_kind) B.pre
  have hown : s.vm.findClass RX0 = some m.cls := findClass_of_methodNamed B.named
  have hS : va_S (fun _ => False) s.heap s.heap [] := va_S.rf
  have hP : va_P (dC, dI) vwCl [(h0, .inr (0, [.ref h1, .int (nI n), .ref h2, .ref h3, .int (nI k), .int rl, .int fp])), (h1, .inl (cA, 1000, .inl tx)), (h2, .inl (cA, 1000, .inl ch)), (h3, .inl (cA, 1000, .inl pl))] s.heap := hP
  obtain ⟨hz0, ht0, hz1, ht1, hz2, ht2, hz3, ht3⟩ := id hT
  have hl := lv_entry ([.ref h0, .int v]) (n := 3) (Nat.le_of_ble_eq_true rfl)
  rw [lg_entry_eq]
  generalize (lg_sl ([.ref h0, .int v]) ++ List.replicate (3 - (lg_sl ([.ref h0, .int v])).length) Slot.unset).toArray = ls at hl ⊢
  have hl : lv_has ls 3 [(0, .ref h0), (1, .int v)] := hl
  refine lv_iconst (v := 0) hx hb dX0_kind_0 (by decide) ?_
  refine lv_istore_n (lv' := [(2, .int 0), (0, .ref h0), (1, .int v)]) hx hb dX0_kind_1 rfl hl (by decide) rfl (fun ls hl => ?_)
  refine va_gets hx hb hz0 hS hown (hts (.fieldLink RX0 58 RX0 "ALLOWED" "[I") (by decide +kernel)) (fun _ h9 => h9) dX0_kind_2 ?_
  refine lv_iload_n hx hb dX0_kind_5 rfl (lv_at hl 2 rfl) ?_
  refine vp_callSi (W.runS (As := [.ref t0, .int v]) (rest := []) ⟨hx, hb, hml, hown, hts⟩ (c_X0_isIn l t0 5 fAL v (by decide)) (va_cwS 2 hts gX0_kind_X0_isIn rfl rfl rfl (by decide +kernel) ⟨Nat.le_of_ble_eq_true rfl, Nat.le_of_ble_eq_true rfl⟩) ⟨fun _ U g mk q => ⟨q.1, va_T.moved (u := U) (U := U.calling g mk _) (Vm.Alike.refl U.vm) q.2⟩, fun U hU hW => ⟨rfl, tb_T ht0 hS hU hW⟩⟩ rfl rfl hl.1 rfl (lv_room (Nat.le_of_ble_eq_true rfl)) dX0_kind_6 ⟨Nat.le_of_ble_eq_true rfl, Nat.le_of_ble_eq_true rfl⟩) (fun r_1 er_1 => ?_)
  obtain rfl : r_1 = bI (xIn fAL v 5) := er_1
  refine lv_if_eq (tgt := 15) hx hb dX0_kind_9 (by decide) (fun c_2 => ?_) (fun c_2 => ?_)
  · have c_2 := bI_0 c_2
    refine va_gets hx hb hz1 hS hown (hts (.fieldLink RX0 65 RX0 "BLANKS" "[I") (by decide +kernel)) (fun _ h9 => h9) dX0_kind_15 ?_
    refine lv_iload_n hx hb dX0_kind_18 rfl (lv_at hl 2 rfl) ?_
    refine vp_callSi (W.runS (As := [.ref t1, .int v]) (rest := []) ⟨hx, hb, hml, hown, hts⟩ (c_X0_isIn l t1 3 fBL v (by decide)) (va_cwS 2 hts gX0_kind_X0_isIn rfl rfl rfl (by decide +kernel) ⟨Nat.le_of_ble_eq_true rfl, Nat.le_of_ble_eq_true rfl⟩) ⟨fun _ U g mk q => ⟨q.1, va_T.moved (u := U) (U := U.calling g mk _) (Vm.Alike.refl U.vm) q.2⟩, fun U hU hW => ⟨rfl, tb_T ht1 hS hU hW⟩⟩ rfl rfl hl.1 rfl (lv_room (Nat.le_of_ble_eq_true rfl)) dX0_kind_19 ⟨Nat.le_of_ble_eq_true rfl, Nat.le_of_ble_eq_true rfl⟩) (fun r_3 er_3 => ?_)
    obtain rfl : r_3 = bI (xIn fBL v 3) := er_3
    refine lv_if_eq (tgt := 28) hx hb dX0_kind_22 (by decide) (fun c_4 => ?_) (fun c_4 => ?_)
    · have c_4 := bI_0 c_4
      refine va_gets hx hb hz2 hS hown (hts (.fieldLink RX0 68 RX0 "NAME_BEGINS" "[I") (by decide +kernel)) (fun _ h9 => h9) dX0_kind_28 ?_
      refine lv_iload_n hx hb dX0_kind_31 rfl (lv_at hl 2 rfl) ?_
      refine vp_callSi (W.runS (As := [.ref t2, .int v]) (rest := []) ⟨hx, hb, hml, hown, hts⟩ (c_X0_isIn l t2 16 fNB v (by decide)) (va_cwS 2 hts gX0_kind_X0_isIn rfl rfl rfl (by decide +kernel) ⟨Nat.le_of_ble_eq_true rfl, Nat.le_of_ble_eq_true rfl⟩) ⟨fun _ U g mk q => ⟨q.1, va_T.moved (u := U) (U := U.calling g mk _) (Vm.Alike.refl U.vm) q.2⟩, fun U hU hW => ⟨rfl, tb_T ht2 hS hU hW⟩⟩ rfl rfl hl.1 rfl (lv_room (Nat.le_of_ble_eq_true rfl)) dX0_kind_32 ⟨Nat.le_of_ble_eq_true rfl, Nat.le_of_ble_eq_true rfl⟩) (fun r_5 er_5 => ?_)
      obtain rfl : r_5 = bI (xIn fNB v 16) := er_5
      refine lv_if_eq (tgt := 41) hx hb dX0_kind_35 (by decide) (fun c_6 => ?_) (fun c_6 => ?_)
      · have c_6 := bI_0 c_6
        refine lv_iload_n hx hb dX0_kind_41 rfl (lv_at hl 2 rfl) ?_
        refine vp_callSi (W.runS (As := [.int v]) (rest := []) ⟨hx, hb, hml, hown, hts⟩ (c_X0_isNamePart l t0 t1 t2 t3 v) (va_cwS 1 hts gX0_kind_X0_isNamePart rfl rfl rfl (by decide +kernel) ⟨Nat.le_of_ble_eq_true rfl, Nat.le_of_ble_eq_true rfl⟩) ⟨xtab_blind, fun U hU hW => ⟨rfl, xtab_call hT hS hU hW (fun _ q => q.elim)⟩⟩ rfl rfl hl.1 rfl (lv_room (Nat.le_of_ble_eq_true rfl)) dX0_kind_42 ⟨Nat.le_of_ble_eq_true rfl, Nat.le_of_ble_eq_true rfl⟩) (fun r_7 er_7 => ?_)
        obtain rfl : r_7 = bI (xNP v) := er_7
        refine lv_if_eq (tgt := 51) hx hb dX0_kind_45 (by decide) (fun c_8 => ?_) (fun c_8 => ?_)
        · have c_8 := bI_0 c_8
          refine lv_iload_n hx hb dX0_kind_51 rfl (lv_at hl 0 rfl) ?_
          exact W.iret (v := 0) hx hb hr (fun t ht hW => ⟨0, rfl, by first | (simp only [xKind, if_neg c_2, if_neg c_4, if_neg c_6, if_neg c_8, bI_t, bI_f]; done) | (simp only [xKind, if_neg c_2, if_neg c_4, if_neg c_6, if_neg c_8, bI_t, bI_f]; rfl), ht⟩) hS.2.2 dX0_kind_52
        · have c_8 := bI_n0 c_8
          refine lv_iinc (v := 8) (lv' := [(2, .int 8), (0, .ref h0), (1, .int v)]) hx hb dX0_kind_48 hl (k := 0) rfl (by decide) (by decide) rfl (fun ls hl => ?_)
          refine lv_iload_n hx hb dX0_kind_51 rfl (lv_at hl 0 rfl) ?_
          exact W.iret (v := 8) hx hb hr (fun t ht hW => ⟨8, rfl, by first | (simp only [xKind, if_neg c_2, if_neg c_4, if_neg c_6, if_pos c_8, bI_t, bI_f]; done) | (simp only [xKind, if_neg c_2, if_neg c_4, if_neg c_6, if_pos c_8, bI_t, bI_f]; rfl), ht⟩) hS.2.2 dX0_kind_52
      · have c_6 := bI_n0 c_6
        refine lv_iinc (v := 4) (lv' := [(2, .int 4), (0, .ref h0), (1, .int v)]) hx hb dX0_kind_38 hl (k := 0) rfl (by decide) (by decide) rfl (fun ls hl => ?_)
        refine lv_iload_n hx hb dX0_kind_41 rfl (lv_at hl 2 rfl) ?_
        refine vp_callSi (W.runS (As := [.int v]) (rest := []) ⟨hx, hb, hml, hown, hts⟩ (c_X0_isNamePart l t0 t1 t2 t3 v) (va_cwS 1 hts gX0_kind_X0_isNamePart rfl rfl rfl (by decide +kernel) ⟨Nat.le_of_ble_eq_true rfl, Nat.le_of_ble_eq_true rfl⟩) ⟨xtab_blind, fun U hU hW => ⟨rfl, xtab_call hT hS hU hW (fun _ q => q.elim)⟩⟩ rfl rfl hl.1 rfl (lv_room (Nat.le_of_ble_eq_true rfl)) dX0_kind_42 ⟨Nat.le_of_ble_eq_true rfl, Nat.le_of_ble_eq_true rfl⟩) (fun r_9 er_9 => ?_)
        obtain rfl : r_9 = bI (xNP v) := er_9
        refine lv_if_eq (tgt := 51) hx hb dX0_kind_45 (by decide) (fun c_10 => ?_) (fun c_10 => ?_)
        · have c_10 := bI_0 c_10
          refine lv_iload_n hx hb dX0_kind_51 rfl (lv_at hl 0 rfl) ?_
          exact W.iret (v := 4) hx hb hr (fun t ht hW => ⟨4, rfl, by first | (simp only [xKind, if_neg c_2, if_neg c_4, if_pos c_6, if_neg c_10, bI_t, bI_f]; done) | (simp only [xKind, if_neg c_2, if_neg c_4, if_pos c_6, if_neg c_10, bI_t, bI_f]; rfl), ht⟩) hS.2.2 dX0_kind_52
        · have c_10 := bI_n0 c_10
          refine lv_iinc (v := 12) (lv' := [(2, .int 12), (0, .ref h0), (1, .int v)]) hx hb dX0_kind_48 hl (k := 0) rfl (by decide) (by decide) rfl (fun ls hl => ?_)
          refine lv_iload_n hx hb dX0_kind_51 rfl (lv_at hl 0 rfl) ?_
          exact W.iret (v := 12) hx hb hr (fun t ht hW => ⟨12, rfl, by first | (simp only [xKind, if_neg c_2, if_neg c_4, if_pos c_6, if_pos c_10, bI_t, bI_f]; done) | (simp only [xKind, if_neg c_2, if_neg c_4, if_pos c_6, if_pos c_10, bI_t, bI_f]; rfl), ht⟩) hS.2.2 dX0_kind_52
    · have c_4 := bI_n0 c_4
      refine lv_iinc (v := 2) (lv' := [(2, .int 2), (0, .ref h0), (1, .int v)]) hx hb dX0_kind_25 hl (k := 0) rfl (by decide) (by decide) rfl (fun ls hl => ?_)
      refine va_gets hx hb hz2 hS hown (hts (.fieldLink RX0 68 RX0 "NAME_BEGINS" "[I") (by decide +kernel)) (fun _ h9 => h9) dX0_kind_28 ?_
      refine lv_iload_n hx hb dX0_kind_31 rfl (lv_at hl 2 rfl) ?_
      refine vp_callSi (W.runS (As := [.ref t2, .int v]) (rest := []) ⟨hx, hb, hml, hown, hts⟩ (c_X0_isIn l t2 16 fNB v (by decide)) (va_cwS 2 hts gX0_kind_X0_isIn rfl rfl rfl (by decide +kernel) ⟨Nat.le_of_ble_eq_true rfl, Nat.le_of_ble_eq_true rfl⟩) ⟨fun _ U g mk q => ⟨q.1, va_T.moved (u := U) (U := U.calling g mk _) (Vm.Alike.refl U.vm) q.2⟩, fun U hU hW => ⟨rfl, tb_T ht2 hS hU hW⟩⟩ rfl rfl hl.1 rfl (lv_room (Nat.le_of_ble_eq_true rfl)) dX0_kind_32 ⟨Nat.le_of_ble_eq_true rfl, Nat.le_of_ble_eq_true rfl⟩) (fun r_11 er_11 => ?_)
      obtain rfl : r_11 = bI (xIn fNB v 16) := er_11
      refine lv_if_eq (tgt := 41) hx hb dX0_kind_35 (by decide) (fun c_12 => ?_) (fun c_12 => ?_)
      · have c_12 := bI_0 c_12
        refine lv_iload_n hx hb dX0_kind_41 rfl (lv_at hl 2 rfl) ?_
        refine vp_callSi (W.runS (As := [.int v]) (rest := []) ⟨hx, hb, hml, hown, hts⟩ (c_X0_isNamePart l t0 t1 t2 t3 v) (va_cwS 1 hts gX0_kind_X0_isNamePart rfl rfl rfl (by decide +kernel) ⟨Nat.le_of_ble_eq_true rfl, Nat.le_of_ble_eq_true rfl⟩) ⟨xtab_blind, fun U hU hW => ⟨rfl, xtab_call hT hS hU hW (fun _ q => q.elim)⟩⟩ rfl rfl hl.1 rfl (lv_room (Nat.le_of_ble_eq_true rfl)) dX0_kind_42 ⟨Nat.le_of_ble_eq_true rfl, Nat.le_of_ble_eq_true rfl⟩) (fun r_13 er_13 => ?_)
        obtain rfl : r_13 = bI (xNP v) := er_13
        refine lv_if_eq (tgt := 51) hx hb dX0_kind_45 (by decide) (fun c_14 => ?_) (fun c_14 => ?_)
        · have c_14 := bI_0 c_14
          refine lv_iload_n hx hb dX0_kind_51 rfl (lv_at hl 0 rfl) ?_
          exact W.iret (v := 2) hx hb hr (fun t ht hW => ⟨2, rfl, by first | (simp only [xKind, if_neg c_2, if_pos c_4, if_neg c_12, if_neg c_14, bI_t, bI_f]; done) | (simp only [xKind, if_neg c_2, if_pos c_4, if_neg c_12, if_neg c_14, bI_t, bI_f]; rfl), ht⟩) hS.2.2 dX0_kind_52
        · have c_14 := bI_n0 c_14
          refine lv_iinc (v := 10) (lv' := [(2, .int 10), (0, .ref h0), (1, .int v)]) hx hb dX0_kind_48 hl (k := 0) rfl (by decide) (by decide) rfl (fun ls hl => ?_)
          refine lv_iload_n hx hb dX0_kind_51 rfl (lv_at hl 0 rfl) ?_
          exact W.iret (v := 10) hx hb hr (fun t ht hW => ⟨10, rfl, by first | (simp only [xKind, if_neg c_2, if_pos c_4, if_neg c_12, if_pos c_14, bI_t, bI_f]; done) | (simp only [xKind, if_neg c_2, if_pos c_4, if_neg c_12, if_pos c_14, bI_t, bI_f]; rfl), ht⟩) hS.2.2 dX0_kind_52
      · have c_12 := bI_n0 c_12
        refine lv_iinc (v := 6) (lv' := [(2, .int 6), (0, .ref h0), (1, .int v)]) hx hb dX0_kind_38 hl (k := 0) rfl (by decide) (by decide) rfl (fun ls hl => ?_)
        refine lv_iload_n hx hb dX0_kind_41 rfl (lv_at hl 2 rfl) ?_
        refine vp_callSi (W.runS (As := [.int v]) (rest := []) ⟨hx, hb, hml, hown, hts⟩ (c_X0_isNamePart l t0 t1 t2 t3 v) (va_cwS 1 hts gX0_kind_X0_isNamePart rfl rfl rfl (by decide +kernel) ⟨Nat.le_of_ble_eq_true rfl, Nat.le_of_ble_eq_true rfl⟩) ⟨xtab_blind, fun U hU hW => ⟨rfl, xtab_call hT hS hU hW (fun _ q => q.elim)⟩⟩ rfl rfl hl.1 rfl (lv_room (Nat.le_of_ble_eq_true rfl)) dX0_kind_42 ⟨Nat.le_of_ble_eq_true rfl, Nat.le_of_ble_eq_true rfl⟩) (fun r_15 er_15 => ?_)
        obtain rfl : r_15 = bI (xNP v) := er_15
        refine lv_if_eq (tgt := 51) hx hb dX0_kind_45 (by decide) (fun c_16 => ?_) (fun c_16 => ?_)
        · have c_16 := bI_0 c_16
          refine lv_iload_n hx hb dX0_kind_51 rfl (lv_at hl 0 rfl) ?_
          exact W.iret (v := 6) hx hb hr (fun t ht hW => ⟨6, rfl, by first | (simp only [xKind, if_neg c_2, if_pos c_4, if_pos c_12, if_neg c_16, bI_t, bI_f]; done) | (simp only [xKind, if_neg c_2, if_pos c_4, if_pos c_12, if_neg c_16, bI_t, bI_f]; rfl), ht⟩) hS.2.2 dX0_kind_52
        · have c_16 := bI_n0 c_16
          refine lv_iinc (v := 14) (lv' := [(2, .int 14), (0, .ref h0), (1, .int v)]) hx hb dX0_kind_48 hl (k := 0) rfl (by decide) (by decide) rfl (fun ls hl => ?_)
          refine lv_iload_n hx hb dX0_kind_51 rfl (lv_at hl 0 rfl) ?_
          exact W.iret (v := 14) hx hb hr (fun t ht hW => ⟨14, rfl, by first | (simp only [xKind, if_neg c_2, if_pos c_4, if_pos c_12, if_pos c_16, bI_t, bI_f]; done) | (simp only [xKind, if_neg c_2, if_pos c_4, if_pos c_12, if_pos c_16, bI_t, bI_f]; rfl), ht⟩) hS.2.2 dX0_kind_52
  · have c_2 := bI_n0 c_2
    refine lv_iinc (v := 1) (lv' := [(2, .int 1), (0, .ref h0), (1, .int v)]) hx hb dX0_kind_12 hl (k := 0) rfl (by decide) (by decide) rfl (fun ls hl => ?_)
    refine va_gets hx hb hz1 hS hown (hts (.fieldLink RX0 65 RX0 "BLANKS" "[I") (by decide +kernel)) (fun _ h9 => h9) dX0_kind_15 ?_
    refine lv_iload_n hx hb dX0_kind_18 rfl (lv_at hl 2 rfl) ?_
    refine vp_callSi (W.runS (As := [.ref t1, .int v]) (rest := []) ⟨hx, hb, hml, hown, hts⟩ (c_X0_isIn l t1 3 fBL v (by decide)) (va_cwS 2 hts gX0_kind_X0_isIn rfl rfl rfl (by decide +kernel) ⟨Nat.le_of_ble_eq_true rfl, Nat.le_of_ble_eq_true rfl⟩) ⟨fun _ U g mk q => ⟨q.1, va_T.moved (u := U) (U := U.calling g mk _) (Vm.Alike.refl U.vm) q.2⟩, fun U hU hW => ⟨rfl, tb_T ht1 hS hU hW⟩⟩ rfl rfl hl.1 rfl (lv_room (Nat.le_of_ble_eq_true rfl)) dX0_kind_19 ⟨Nat.le_of_ble_eq_true rfl, Nat.le_of_ble_eq_true rfl⟩) (fun r_17 er_17 => ?_)
    obtain rfl : r_17 = bI (xIn fBL v 3) := er_17
    refine lv_if_eq (tgt := 28) hx hb dX0_kind_22 (by decide) (fun c_18 => ?_) (fun c_18 => ?_)
    · have c_18 := bI_0 c_18
      refine va_gets hx hb hz2 hS hown (hts (.fieldLink RX0 68 RX0 "NAME_BEGINS" "[I") (by decide +kernel)) (fun _ h9 => h9) dX0_kind_28 ?_
      refine lv_iload_n hx hb dX0_kind_31 rfl (lv_at hl 2 rfl) ?_
      refine vp_callSi (W.runS (As := [.ref t2, .int v]) (rest := []) ⟨hx, hb, hml, hown, hts⟩ (c_X0_isIn l t2 16 fNB v (by decide)) (va_cwS 2 hts gX0_kind_X0_isIn rfl rfl rfl (by decide +kernel) ⟨Nat.le_of_ble_eq_true rfl, Nat.le_of_ble_eq_true rfl⟩) ⟨fun _ U g mk q => ⟨q.1, va_T.moved (u := U) (U := U.calling g mk _) (Vm.Alike.refl U.vm) q.2⟩, fun U hU hW => ⟨rfl, tb_T ht2 hS hU hW⟩⟩ rfl rfl hl.1 rfl (lv_room (Nat.le_of_ble_eq_true rfl)) dX0_kind_32 ⟨Nat.le_of_ble_eq_true rfl, Nat.le_of_ble_eq_true rfl⟩) (fun r_19 er_19 => ?_)
      obtain rfl : r_19 = bI (xIn fNB v 16) := er_19
      refine lv_if_eq (tgt := 41) hx hb dX0_kind_35 (by decide) (fun c_20 => ?_) (fun c_20 => ?_)
      · have c_20 := bI_0 c_20
        refine lv_iload_n hx hb dX0_kind_41 rfl (lv_at hl 2 rfl) ?_
        refine vp_callSi (W.runS (As := [.int v]) (rest := []) ⟨hx, hb, hml, hown, hts⟩ (c_X0_isNamePart l t0 t1 t2 t3 v) (va_cwS 1 hts gX0_kind_X0_isNamePart rfl rfl rfl (by decide +kernel) ⟨Nat.le_of_ble_eq_true rfl, Nat.le_of_ble_eq_true rfl⟩) ⟨xtab_blind, fun U hU hW => ⟨rfl, xtab_call hT hS hU hW (fun _ q => q.elim)⟩⟩ rfl rfl hl.1 rfl (lv_room (Nat.le_of_ble_eq_true rfl)) dX0_kind_42 ⟨Nat.le_of_ble_eq_true rfl, Nat.le_of_ble_eq_true rfl⟩) (fun r_21 er_21 => ?_)
        obtain rfl : r_21 = bI (xNP v) := er_21
        refine lv_if_eq (tgt := 51) hx hb dX0_kind_45 (by decide) (fun c_22 => ?_) (fun c_22 => ?_)
        · have c_22 := bI_0 c_22
          refine lv_iload_n hx hb dX0_kind_51 rfl (lv_at hl 0 rfl) ?_
          exact W.iret (v := 1) hx hb hr (fun t ht hW => ⟨1, rfl, by first | (simp only [xKind, if_pos c_2, if_neg c_18, if_neg c_20, if_neg c_22, bI_t, bI_f]; done) | (simp only [xKind, if_pos c_2, if_neg c_18, if_neg c_20, if_neg c_22, bI_t, bI_f]; rfl), ht⟩) hS.2.2 dX0_kind_52
        · have c_22 := bI_n0 c_22
          refine lv_iinc (v := 9) (lv' := [(2, .int 9), (0, .ref h0), (1, .int v)]) hx hb dX0_kind_48 hl (k := 0) rfl (by decide) (by decide) rfl (fun ls hl => ?_)
          refine lv_iload_n hx hb dX0_kind_51 rfl (lv_at hl 0 rfl) ?_
          exact W.iret (v := 9) hx hb hr (fun t ht hW => ⟨9, rfl, by first | (simp only [xKind, if_pos c_2, if_neg c_18, if_neg c_20, if_pos c_22, bI_t, bI_f]; done) | (simp only [xKind, if_pos c_2, if_neg c_18, if_neg c_20, if_pos c_22, bI_t, bI_f]; rfl), ht⟩) hS.2.2 dX0_kind_52
      · have c_20 := bI_n0 c_20
        refine lv_iinc (v := 5) (lv' := [(2, .int 5), (0, .ref h0), (1, .int v)]) hx hb dX0_kind_38 hl (k := 0) rfl (by decide) (by decide) rfl (fun ls hl => ?_)
        refine lv_iload_n hx hb dX0_kind_41 rfl (lv_at hl 2 rfl) ?_
        refine vp_callSi (W.runS (As := [.int v]) (rest := []) ⟨hx, hb, hml, hown, hts⟩ (c_X0_isNamePart l t0 t1 t2 t3 v) (va_cwS 1 hts gX0_kind_X0_isNamePart rfl rfl rfl (by decide +kernel) ⟨Nat.le_of_ble_eq_true rfl, Nat.le_of_ble_eq_true rfl⟩) ⟨xtab_blind, fun U hU hW => ⟨rfl, xtab_call hT hS hU hW (fun _ q => q.elim)⟩⟩ rfl rfl hl.1 rfl (lv_room (Nat.le_of_ble_eq_true rfl)) dX0_kind_42 ⟨Nat.le_of_ble_eq_true rfl, Nat.le_of_ble_eq_true rfl⟩) (fun r_23 er_23 => ?_)
        obtain rfl : r_23 = bI (xNP v) := er_23
        refine lv_if_eq (tgt := 51) hx hb dX0_kind_45 (by decide) (fun c_24 => ?_) (fun c_24 => ?_)
        · have c_24 := bI_0 c_24
          refine lv_iload_n hx hb dX0_kind_51 rfl (lv_at hl 0 rfl) ?_
          exact W.iret (v := 5) hx hb hr (fun t ht hW => ⟨5, rfl, by first | (simp only [xKind, if_pos c_2, if_neg c_18, if_pos c_20, if_neg c_24, bI_t, bI_f]; done) | (simp only [xKind, if_pos c_2, if_neg c_18, if_pos c_20, if_neg c_24, bI_t, bI_f]; rfl), ht⟩) hS.2.2 dX0_kind_52
        · have c_24 := bI_n0 c_24
          refine lv_iinc (v := 13) (lv' := [(2, .int 13), (0, .ref h0), (1, .int v)]) hx hb dX0_kind_48 hl (k := 0) rfl (by decide) (by decide) rfl (fun ls hl => ?_)
          refine lv_iload_n hx hb dX0_kind_51 rfl (lv_at hl 0 rfl) ?_
          exact W.iret (v := 13) hx hb hr (fun t ht hW => ⟨13, rfl, by first | (simp only [xKind, if_pos c_2, if_neg c_18, if_pos c_20, if_pos c_24, bI_t, bI_f]; done) | (simp only [xKind, if_pos c_2, if_neg c_18, if_pos c_20, if_pos c_24, bI_t, bI_f]; rfl), ht⟩) hS.2.2 dX0_kind_52
    · have c_18 := bI_n0 c_18
      refine lv_iinc (v := 3) (lv' := [(2, .int 3), (0, .ref h0), (1, .int v)]) hx hb dX0_kind_25 hl (k := 0) rfl (by decide) (by decide) rfl (fun ls hl => ?_)
      refine va_gets hx hb hz2 hS hown (hts (.fieldLink RX0 68 RX0 "NAME_BEGINS" "[I") (by decide +kernel)) (fun _ h9 => h9) dX0_kind_28 ?_
      refine lv_iload_n hx hb dX0_kind_31 rfl (lv_at hl 2 rfl) ?_
      refine vp_callSi (W.runS (As := [.ref t2, .int v]) (rest := []) ⟨hx, hb, hml, hown, hts⟩ (c_X0_isIn l t2 16 fNB v (by decide)) (va_cwS 2 hts gX0_kind_X0_isIn rfl rfl rfl (by decide +kernel) ⟨Nat.le_of_ble_eq_true rfl, Nat.le_of_ble_eq_true rfl⟩) ⟨fun _ U g mk q => ⟨q.1, va_T.moved (u := U) (U := U.calling g mk _) (Vm.Alike.refl U.vm) q.2⟩, fun U hU hW => ⟨rfl, tb_T ht2 hS hU hW⟩⟩ rfl rfl hl.1 rfl (lv_room (Nat.le_of_ble_eq_true rfl)) dX0_kind_32 ⟨Nat.le_of_ble_eq_true rfl, Nat.le_of_ble_eq_true rfl⟩) (fun r_25 er_25 => ?_)
      obtain rfl : r_25 = bI (xIn fNB v 16) := er_25
      refine lv_if_eq (tgt := 41) hx hb dX0_kind_35 (by decide) (fun c_26 => ?_) (fun c_26 => ?_)
      · have c_26 := bI_0 c_26
        refine lv_iload_n hx hb dX0_kind_41 rfl (lv_at hl 2 rfl) ?_
        refine vp_callSi (W.runS (As := [.int v]) (rest := []) ⟨hx, hb, hml, hown, hts⟩ (c_X0_isNamePart l t0 t1 t2 t3 v) (va_cwS 1 hts gX0_kind_X0_isNamePart rfl rfl rfl (by decide +kernel) ⟨Nat.le_of_ble_eq_true rfl, Nat.le_of_ble_eq_true rfl⟩) ⟨xtab_blind, fun U hU hW => ⟨rfl, xtab_call hT hS hU hW (fun _ q => q.elim)⟩⟩ rfl rfl hl.1 rfl (lv_room (Nat.le_of_ble_eq_true rfl)) dX0_kind_42 ⟨Nat.le_of_ble_eq_true rfl, Nat.le_of_ble_eq_true rfl⟩) (fun r_27 er_27 => ?_)
        obtain rfl : r_27 = bI (xNP v) := er_27
        refine lv_if_eq (tgt := 51) hx hb dX0_kind_45 (by decide) (fun c_28 => ?_) (fun c_28 => ?_)
        · have c_28 := bI_0 c_28
          refine lv_iload_n hx hb dX0_kind_51 rfl (lv_at hl 0 rfl) ?_
          exact W.iret (v := 3) hx hb hr (fun t ht hW => ⟨3, rfl, by first | (simp only [xKind, if_pos c_2, if_pos c_18, if_neg c_26, if_neg c_28, bI_t, bI_f]; done) | (simp only [xKind, if_pos c_2, if_pos c_18, if_neg c_26, if_neg c_28, bI_t, bI_f]; rfl), ht⟩) hS.2.2 dX0_kind_52
        · have c_28 := bI_n0 c_28
          refine lv_iinc (v := 11) (lv' := [(2, .int 11), (0, .ref h0), (1, .int v)]) hx hb dX0_kind_48 hl (k := 0) rfl (by decide) (by decide) rfl (fun ls hl => ?_)
          refine lv_iload_n hx hb dX0_kind_51 rfl (lv_at hl 0 rfl) ?_
          exact W.iret (v := 11) hx hb hr (fun t ht hW => ⟨11, rfl, by first | (simp only [xKind, if_pos c_2, if_pos c_18, if_neg c_26, if_pos c_28, bI_t, bI_f]; done) | (simp only [xKind, if_pos c_2, if_pos c_18, if_neg c_26, if_pos c_28, bI_t, bI_f]; rfl), ht⟩) hS.2.2 dX0_kind_52
      · have c_26 := bI_n0 c_26
        refine lv_iinc (v := 7) (lv' := [(2, .int 7), (0, .ref h0), (1, .int v)]) hx hb dX0_kind_38 hl (k := 0) rfl (by decide) (by decide) rfl (fun ls hl => ?_)
        refine lv_iload_n hx hb dX0_kind_41 rfl (lv_at hl 2 rfl) ?_
        refine vp_callSi (W.runS (As := [.int v]) (rest := []) ⟨hx, hb, hml, hown, hts⟩ (c_X0_isNamePart l t0 t1 t2 t3 v) (va_cwS 1 hts gX0_kind_X0_isNamePart rfl rfl rfl (by decide +kernel) ⟨Nat.le_of_ble_eq_true rfl, Nat.le_of_ble_eq_true rfl⟩) ⟨xtab_blind, fun U hU hW => ⟨rfl, xtab_call hT hS hU hW (fun _ q => q.elim)⟩⟩ rfl rfl hl.1 rfl (lv_room (Nat.le_of_ble_eq_true rfl)) dX0_kind_42 ⟨Nat.le_of_ble_eq_true rfl, Nat.le_of_ble_eq_true rfl⟩) (fun r_29 er_29 => ?_)
        obtain rfl : r_29 = bI (xNP v) := er_29
        refine lv_if_eq (tgt := 51) hx hb dX0_kind_45 (by decide) (fun c_30 => ?_) (fun c_30 => ?_)
        · have c_30 := bI_0 c_30
          refine lv_iload_n hx hb dX0_kind_51 rfl (lv_at hl 0 rfl) ?_
          exact W.iret (v := 7) hx hb hr (fun t ht hW => ⟨7, rfl, by first | (simp only [xKind, if_pos c_2, if_pos c_18, if_pos c_26, if_neg c_30, bI_t, bI_f]; done) | (simp only [xKind, if_pos c_2, if_pos c_18, if_pos c_26, if_neg c_30, bI_t, bI_f]; rfl), ht⟩) hS.2.2 dX0_kind_52
        · have c_30 := bI_n0 c_30
          refine lv_iinc (v := 15) (lv' := [(2, .int 15), (0, .ref h0), (1, .int v)]) hx hb dX0_kind_48 hl (k := 0) rfl (by decide) (by decide) rfl (fun ls hl => ?_)
          refine lv_iload_n hx hb dX0_kind_51 rfl (lv_at hl 0 rfl) ?_
          exact W.iret (v := 15) hx hb hr (fun t ht hW => ⟨15, rfl, by first | (simp only [xKind, if_pos c_2, if_pos c_18, if_pos c_26, if_pos c_30, bI_t, bI_f]; done) | (simp only [xKind, if_pos c_2, if_pos c_18, if_pos c_26, if_pos c_30, bI_t, bI_f]; rfl), ht⟩) hS.2.2 dX0_kind_52
set_option maxHeartbeats 4000000 in
set_option maxRecDepth 100000 in
theorem c_X0_isLeftOut (l : Launch) (dC : Nat → ClassId) (dI : Nat → Nat → Nat) (h0 h1 h2 h3 : Nat) (cA : ClassId) (t0 t1 t2 t3 : Nat) (tx : Nat → Int32) (n : Nat) (ch pl : Nat → Int32) (k : Nat) (rl : Int32) (fp : Int32) (v : Int32) (fr : Nat) (hfr : fr < 1000) : Met l yX0_isLeftOut wsX0_isLeftOut ({ frames := 0, cells := 0, slots := 0, locals := 0 }) (va_Pc [.ref h0, .int v, .int (nI fr)] (fun U => xpre dC dI h0 h1 h2 h3 cA t0 t1 t2 t3 (tx, n, ch, pl, k, rl, fp) U)) (vp_Si (fun r => r = bI (xLeft tx v fr))) 0 0 (fun _ => False) := by
  refine Met.ofW (cc := cX0_isLeftOut) (maxL := 3) (ret := (some .boolean)) (by decide) rfl ?_
  intro p e s m args below meth c s₁ B hml hv
  obtain ⟨rfl, hP, hK, hT⟩ := hv
  have hx := B.exec
  have hb := B.bytes
  have hr := B.returns
  have hts := atoms_spec (ws := wsX0_isLeftOut) B.pre
  have hown : s.vm.findClass RX0 = some m.cls := findClass_of_methodNamed B.named
  have hS : va_S (fun _ => False) s.heap s.heap [] := va_S.rf
  have hP : va_P (dC, dI) vwCl [(h0, .inr (0, [.ref h1, .int (nI n), .ref h2, .ref h3, .int (nI k), .int rl, .int fp])), (h1, .inl (cA, 1000, .inl tx)), (h2, .inl (cA, 1000, .inl ch)), (h3, .inl (cA, 1000, .inl pl))] s.heap := hP
  have hIn : ∀ w ∈ wsX00, w ∈ wsX0_isLeftOut := by decide +kernel
  obtain ⟨hz0, ht0, hz1, ht1, hz2, ht2, hz3, ht3⟩ := id hT
  have hl := lv_entry ([.ref h0, .int v, .int (nI fr)]) (n := 3) (Nat.le_of_ble_eq_true rfl)
  rw [lg_entry_eq]
  generalize (lg_sl ([.ref h0, .int v, .int (nI fr)]) ++ List.replicate (3 - (lg_sl ([.ref h0, .int v, .int (nI fr)])).length) Slot.unset).toArray = ls at hl ⊢
  have hl : lv_has ls 3 [(0, .ref h0), (1, .int v), (2, .int (nI fr))] := hl
  refine lv_iload_n hx hb dX0_isLeftOut_0 rfl (lv_at hl 2 rfl) ?_
  refine lv_if_ne (tgt := 16) hx hb dX0_isLeftOut_1 (by decide) (fun c_1 => ?_) (fun c_1 => ?_)
  · refine lv_iload_n hx hb dX0_isLeftOut_16 rfl (lv_at hl 1 rfl) ?_
    refine lv_bipush (v := 10) hx hb dX0_isLeftOut_17 (by decide) ?_
    refine lv_icmp_ne (tgt := 39) hx hb dX0_isLeftOut_19 (by decide) (fun c_2 => ?_) (fun c_2 => ?_)
    · refine lv_iconst (v := 0) hx hb dX0_isLeftOut_39 (by decide) ?_
      exact W.zret (v := 0) (ty := .boolean) hx hb hr (rfl) (fun t ht hW => ⟨0, rfl, by first | (simp only [xLeft, if_neg c_1, if_neg c_2, bI_t, bI_f]; done) | (simp only [xLeft, if_neg c_1, if_neg c_2, bI_t, bI_f]; rfl), ht⟩) hS.2.2 dX0_isLeftOut_40
    · refine lv_aload_n hx hb dX0_isLeftOut_22 rfl (lv_at hl 0 rfl) ?_
      refine va_get (D := (dC, dI)) (ci := 0) (v := .ref h1) (C := RX0) (T := TX0) (N := 7) hx hb hts hIn hown hK hP 0 rfl rfl 0 (by decide) (hts (.fieldLink RX0 9 RX0 "text" "[I") (by decide +kernel)) (fun _ h9 => h9) rfl dX0_isLeftOut_23 ?_
      refine lv_iload_n hx hb dX0_isLeftOut_26 rfl (lv_at hl 2 rfl) ?_
      refine lv_iconst (v := 1) hx hb dX0_isLeftOut_27 (by decide) ?_
      refine lv_isub hx hb dX0_isLeftOut_28 ?_
      have hf0 : 0 < fr := Nat.pos_of_ne_zero (fun q => c_1 (by rw [q]; rfl))
      refine lv_topi (fun x_3 ex_3 => ?_)
      obtain rfl : x_3 = nI (fr - 1) := ex_3.trans (pk_sub (b := 1) (by omega))
      refine va_iald hx hb hK hP 1 0 rfl rfl (vp_in_nI (by omega) (by omega)) dX0_isLeftOut_29 ?_
      refine lv_topi (fun x_4 ex_4 => ?_)
      obtain rfl : x_4 = tx (fr - 1) := ex_4.trans (by rw [nI_clamp (by omega)])
      refine lv_bipush (v := 13) hx hb dX0_isLeftOut_30 (by decide) ?_
      refine lv_icmp_ne (tgt := 39) hx hb dX0_isLeftOut_32 (by decide) (fun c_5 => ?_) (fun c_5 => ?_)
      · refine lv_iconst (v := 0) hx hb dX0_isLeftOut_39 (by decide) ?_
        exact W.zret (v := 0) (ty := .boolean) hx hb hr (rfl) (fun t ht hW => ⟨0, rfl, by first | (simp only [xLeft, if_neg c_1, if_pos c_2, if_neg c_5, bI_t, bI_f]; done) | (simp only [xLeft, if_neg c_1, if_pos c_2, if_neg c_5, bI_t, bI_f]; rfl), ht⟩) hS.2.2 dX0_isLeftOut_40
      · refine lv_iconst (v := 1) hx hb dX0_isLeftOut_35 (by decide) ?_
        refine lv_goto (tgt := 40) hx hb dX0_isLeftOut_36 (by decide) ?_
        exact W.zret (v := 1) (ty := .boolean) hx hb hr (rfl) (fun t ht hW => ⟨1, rfl, by first | (simp only [xLeft, if_neg c_1, if_pos c_2, if_pos c_5, bI_t, bI_f]; done) | (simp only [xLeft, if_neg c_1, if_pos c_2, if_pos c_5, bI_t, bI_f]; rfl), ht⟩) hS.2.2 dX0_isLeftOut_40
  · refine lv_iload_n hx hb dX0_isLeftOut_4 rfl (lv_at hl 1 rfl) ?_
    refine lv_ldc (own := RX0) (v := 65279) hx hb hown (hts (.constant RX0 100 65279) (by decide +kernel)) dX0_isLeftOut_5 ?_
    refine lv_icmp_ne (tgt := 14) hx hb dX0_isLeftOut_7 (by decide) (fun c_6 => ?_) (fun c_6 => ?_)
    · refine lv_iconst (v := 0) hx hb dX0_isLeftOut_14 (by decide) ?_
      exact W.zret (v := 0) (ty := .boolean) hx hb hr (rfl) (fun t ht hW => ⟨0, rfl, by first | (simp only [xLeft, if_pos c_1, if_neg c_6, bI_t, bI_f]; done) | (simp only [xLeft, if_pos c_1, if_neg c_6, bI_t, bI_f]; rfl), ht⟩) hS.2.2 dX0_isLeftOut_15
    · refine lv_iconst (v := 1) hx hb dX0_isLeftOut_10 (by decide) ?_
      refine lv_goto (tgt := 15) hx hb dX0_isLeftOut_11 (by decide) ?_
      exact W.zret (v := 1) (ty := .boolean) hx hb hr (rfl) (fun t ht hW => ⟨1, rfl, by first | (simp only [xLeft, if_pos c_1, if_pos c_6, bI_t, bI_f]; done) | (simp only [xLeft, if_pos c_1, if_pos c_6, bI_t, bI_f]; rfl), ht⟩) hS.2.2 dX0_isLeftOut_15
set_option maxHeartbeats 4000000 in
set_option maxRecDepth 100000 in
theorem c_X0_decodedAt (l : Launch) (dC : Nat → ClassId) (dI : Nat → Nat → Nat) (h0 h1 h2 h3 : Nat) (cA : ClassId) (t0 t1 t2 t3 : Nat) (tx : Nat → Int32) (n : Nat) (ch pl : Nat → Int32) (k : Nat) (rl : Int32) (fp : Int32) (fr : Nat) (hn : n ≤ 1000) (hfr : fr < n) : Met l yX0_decodedAt wsX0_decodedAt ({ frames := 1, cells := 0, slots := 0, locals := 20 }) (va_Pc [.ref h0, .int (nI fr)] (fun U => xpre dC dI h0 h1 h2 h3 cA t0 t1 t2 t3 (tx, n, ch, pl, k, rl, fp) U)) (vp_Si (fun r => r = xDec tx n fr)) 0 0 (fun _ => False) := by
  refine Met.ofW (cc := cX0_decodedAt) (maxL := 7) (ret := (some .int)) (by decide) rfl ?_
  intro p e s m args below meth c s₁ B hml hv
  obtain ⟨rfl, hP, hK, hT⟩ := hv
  have hx := B.exec
  have hb := B.bytes
  have hr := B.returns
  have hts := atoms_spec (ws := wsX0_decodedAt) B.pre
  have hown : s.vm.findClass RX0 = some m.cls := findClass_of_methodNamed B.named
  have hS : va_S (fun _ => False) s.heap s.heap [] := va_S.rf
  have hP : va_P (dC, dI) vwCl [(h0, .inr (0, [.ref h1, .int (nI n), .ref h2, .ref h3, .int (nI k), .int rl, .int fp])), (h1, .inl (cA, 1000, .inl tx)), (h2, .inl (cA, 1000, .inl ch)), (h3, .inl (cA, 1000, .inl pl))] s.heap := hP
  have hIn : ∀ w ∈ wsX00, w ∈ wsX0_decodedAt := by decide +kernel
  obtain ⟨hz0, ht0, hz1, ht1, hz2, ht2, hz3, ht3⟩ := id hT
  have hl := lv_entry ([.ref h0, .int (nI fr)]) (n := 7) (Nat.le_of_ble_eq_true rfl)
  rw [lg_entry_eq]
  generalize (lg_sl ([.ref h0, .int (nI fr)]) ++ List.replicate (7 - (lg_sl ([.ref h0, .int (nI fr)])).length) Slot.unset).toArray = ls at hl ⊢
  have hl : lv_has ls 7 [(0, .ref h0), (1, .int (nI fr))] := hl
  have hq0 : ∀ fo : Nat, xFol (tx fr) = nI fo → fo ≤ 3 → fr + fo < n → ∀ (d q : Nat) (acc : Int32) (ls : Array Slot), q + d = fo + 1 → 1 ≤ q → (∀ r, r = xDecE (xDl tx fr d q acc) (nI fo) → r = xDec tx n fr) → lv_has ls 7 [(5, .int (nI q)), (4, .int acc), (3, .int (nI fo)), (2, .int (tx fr)), (0, .ref h0), (1, .int (nI fr))] → W p l e (headSpec wsX0_decodedAt ({ frames := 1, cells := 0, slots := 0, locals := 20 })).room s m ([.ref h0, .int (nI fr)] : List Value).toArray below meth c s.heap [] 0 0 (MQ below (vp_Si (fun r => r = xDec tx n fr)) ([.ref h0, .int (nI fr)] : List Value).toArray s 0 0 (fun _ => False)) (F0 m 47 ls []) := by
    intro fo hfo hf3 hlt d
    induction d with
    | zero =>
      intro q acc ls hq hq1 hpost hl
      refine lv_iload hx hb dX0_decodedAt_47 (lv_at hl 0 rfl) ?_
      refine lv_iload_n hx hb dX0_decodedAt_49 rfl (lv_at hl 2 rfl) ?_
      refine lv_icmp_gt (tgt := 97) hx hb dX0_decodedAt_50 (by decide) (fun c_1 => ?_) (fun c_1 => ?_)
      · refine lv_iload hx hb dX0_decodedAt_97 (lv_at hl 1 rfl) ?_
        refine vp_callSi (W.runS (As := [.int acc]) (rest := []) ⟨hx, hb, hml, hown, hts⟩ (c_X0_widthOf l acc) (va_cwS 1 hts gX0_decodedAt_X0_widthOf rfl rfl rfl (by decide +kernel) ⟨Nat.le_of_ble_eq_true rfl, Nat.le_of_ble_eq_true rfl⟩) ⟨fun _ _ _ _ q => q, fun U hU hW => ⟨rfl, trivial⟩⟩ rfl rfl hl.1 rfl (lv_room (Nat.le_of_ble_eq_true rfl)) dX0_decodedAt_99 ⟨Nat.le_of_ble_eq_true rfl, Nat.le_of_ble_eq_true rfl⟩) (fun r_2 er_2 => ?_)
        obtain rfl : r_2 = xWidth acc := er_2
        refine lv_iload_n hx hb dX0_decodedAt_102 rfl (lv_at hl 2 rfl) ?_
        refine lv_iconst (v := 1) hx hb dX0_decodedAt_103 (by decide) ?_
        refine lv_iadd hx hb dX0_decodedAt_104 ?_
        refine lv_icmp_ne (tgt := 113) hx hb dX0_decodedAt_105 (by decide) (fun c_3 => ?_) (fun c_3 => ?_)
        · refine lv_iconst (v := -1) hx hb dX0_decodedAt_113 (by decide) ?_
          exact W.iret (v := (-1)) hx hb hr (fun t ht hW => ⟨(-1), rfl, hpost _ (by simp only [xDl, xDecE, if_neg c_3]), ht⟩) hS.2.2 dX0_decodedAt_114
        · refine lv_iload hx hb dX0_decodedAt_108 (lv_at hl 1 rfl) ?_
          refine lv_goto (tgt := 114) hx hb dX0_decodedAt_110 (by decide) ?_
          exact W.iret (v := acc) hx hb hr (fun t ht hW => ⟨acc, rfl, hpost _ (by simp only [xDl, xDecE, if_pos c_3]), ht⟩) hS.2.2 dX0_decodedAt_114
      · exact absurd (nI_lt (by omega) (by omega)) c_1
    | succ d ih =>
      intro q acc ls hq hq1 hpost hl
      refine lv_iload hx hb dX0_decodedAt_47 (lv_at hl 0 rfl) ?_
      refine lv_iload_n hx hb dX0_decodedAt_49 rfl (lv_at hl 2 rfl) ?_
      refine lv_icmp_gt (tgt := 97) hx hb dX0_decodedAt_50 (by decide) (fun c_4 => ?_) (fun c_4 => ?_)
      · exact absurd c_4 (nI_nlt (by omega) (by omega))
      · refine lv_aload_n hx hb dX0_decodedAt_53 rfl (lv_at hl 4 rfl) ?_
        refine va_get (D := (dC, dI)) (ci := 0) (v := .ref h1) (C := RX0) (T := TX0) (N := 7) hx hb hts hIn hown hK hP 0 rfl rfl 0 (by decide) (hts (.fieldLink RX0 9 RX0 "text" "[I") (by decide +kernel)) (fun _ h9 => h9) rfl dX0_decodedAt_54 ?_
        refine lv_iload_n hx hb dX0_decodedAt_57 rfl (lv_at hl 5 rfl) ?_
        refine lv_iload hx hb dX0_decodedAt_58 (lv_at hl 0 rfl) ?_
        refine lv_iadd hx hb dX0_decodedAt_60 ?_
        refine lv_topi (fun x_5 ex_5 => ?_)
        obtain rfl : x_5 = nI (fr + q) := ex_5.trans (nI_add _ _)
        refine va_iald hx hb hK hP 1 0 rfl rfl (vp_in_nI (by omega) (by omega)) dX0_decodedAt_61 ?_
        refine lv_topi (fun x_6 ex_6 => ?_)
        obtain rfl : x_6 = tx (fr + q) := ex_6.trans (by rw [nI_clamp (by omega)])
        refine lv_istore (lv' := [(6, .int (tx (fr + q))), (5, .int (nI q)), (4, .int acc), (3, .int (nI fo)), (2, .int (tx fr)), (0, .ref h0), (1, .int (nI fr))]) hx hb dX0_decodedAt_62 hl (by decide) rfl (fun ls hl => ?_)
        refine lv_iload hx hb dX0_decodedAt_64 (lv_at hl 0 rfl) ?_
        refine lv_sipush (v := 192) hx hb dX0_decodedAt_66 (by decide) ?_
        refine lv_iand hx hb dX0_decodedAt_69 ?_
        refine lv_sipush (v := 128) hx hb dX0_decodedAt_70 (by decide) ?_
        refine lv_icmp_eq (tgt := 78) hx hb dX0_decodedAt_73 (by decide) (fun c_7 => ?_) (fun c_7 => ?_)
        · refine lv_iload hx hb dX0_decodedAt_78 (lv_at hl 2 rfl) ?_
          refine lv_bipush (v := 6) hx hb dX0_decodedAt_80 (by decide) ?_
          refine lv_ishl hx hb dX0_decodedAt_82 ?_
          refine lv_iload hx hb dX0_decodedAt_83 (lv_at hl 0 rfl) ?_
          refine lv_bipush (v := 63) hx hb dX0_decodedAt_85 (by decide) ?_
          refine lv_iand hx hb dX0_decodedAt_87 ?_
          refine lv_ior hx hb dX0_decodedAt_88 ?_
          refine lv_topi (fun x_8 ex_8 => ?_)
          refine lv_istore (lv' := [(4, .int x_8), (6, .int (tx (fr + q))), (5, .int (nI q)), (3, .int (nI fo)), (2, .int (tx fr)), (0, .ref h0), (1, .int (nI fr))]) hx hb dX0_decodedAt_89 hl (by decide) rfl (fun ls hl => ?_)
          refine lv_iinc (v := nI (q + 1)) (lv' := [(5, .int (nI (q + 1))), (4, .int x_8), (6, .int (tx (fr + q))), (3, .int (nI fo)), (2, .int (tx fr)), (0, .ref h0), (1, .int (nI fr))]) hx hb dX0_decodedAt_91 hl (k := 2) rfl (nI_1 _) (by decide) rfl (fun ls hl => ?_)
          refine lv_goto (tgt := 47) hx hb dX0_decodedAt_94 (by decide) ?_
          exact ih (q + 1) x_8 ls (by omega) (by omega) (fun r hr' => hpost r (by rw [hr', ex_8]; simp only [xDl, if_pos c_7])) (lv_sub hl [0, 1, 3, 4, 5, 6] rfl)
        · refine lv_iconst (v := -1) hx hb dX0_decodedAt_76 (by decide) ?_
          exact W.iret (v := (-1)) hx hb hr (fun t ht hW => ⟨(-1), rfl, hpost _ (by simp only [xDl, xDecE, if_neg c_7]), ht⟩) hS.2.2 dX0_decodedAt_77
  refine lv_aload_n hx hb dX0_decodedAt_0 rfl (lv_at hl 0 rfl) ?_
  refine va_get (D := (dC, dI)) (ci := 0) (v := .ref h1) (C := RX0) (T := TX0) (N := 7) hx hb hts hIn hown hK hP 0 rfl rfl 0 (by decide) (hts (.fieldLink RX0 9 RX0 "text" "[I") (by decide +kernel)) (fun _ h9 => h9) rfl dX0_decodedAt_1 ?_
  refine lv_iload_n hx hb dX0_decodedAt_4 rfl (lv_at hl 1 rfl) ?_
  refine va_iald hx hb hK hP 1 0 rfl rfl (vp_in_nI (by omega) (by omega)) dX0_decodedAt_5 ?_
  refine lv_topi (fun x_9 ex_9 => ?_)
  obtain rfl : x_9 = tx fr := ex_9.trans (by rw [nI_clamp (by omega)])
  refine lv_istore_n (lv' := [(2, .int (tx fr)), (0, .ref h0), (1, .int (nI fr))]) hx hb dX0_decodedAt_6 rfl hl (by decide) rfl (fun ls hl => ?_)
  refine lv_iload_n hx hb dX0_decodedAt_7 rfl (lv_at hl 0 rfl) ?_
  refine vp_callSi (W.runS (As := [.int (tx fr)]) (rest := []) ⟨hx, hb, hml, hown, hts⟩ (c_X0_followersOf l (tx fr)) (va_cwS 1 hts gX0_decodedAt_X0_followersOf rfl rfl rfl (by decide +kernel) ⟨Nat.le_of_ble_eq_true rfl, Nat.le_of_ble_eq_true rfl⟩) ⟨fun _ _ _ _ q => q, fun U hU hW => ⟨rfl, trivial⟩⟩ rfl rfl hl.1 rfl (lv_room (Nat.le_of_ble_eq_true rfl)) dX0_decodedAt_8 ⟨Nat.le_of_ble_eq_true rfl, Nat.le_of_ble_eq_true rfl⟩) (fun r_10 er_10 => ?_)
  obtain rfl : r_10 = xFol (tx fr) := er_10
  refine lv_istore_n (lv' := [(3, .int (xFol (tx fr))), (2, .int (tx fr)), (0, .ref h0), (1, .int (nI fr))]) hx hb dX0_decodedAt_11 rfl hl (by decide) rfl (fun ls hl => ?_)
  refine lv_iload_n hx hb dX0_decodedAt_12 rfl (lv_at hl 0 rfl) ?_
  refine lv_if_lt (tgt := 26) hx hb dX0_decodedAt_13 (by decide) (fun c_11 => ?_) (fun c_11 => ?_)
  · refine lv_iconst (v := -1) hx hb dX0_decodedAt_26 (by decide) ?_
    exact W.iret (v := (-1)) hx hb hr (fun t ht hW => ⟨(-1), rfl, by simp only [xDec, if_pos c_11], ht⟩) hS.2.2 dX0_decodedAt_27
  · obtain ⟨fo, hf3, hfo⟩ := xFol_nat c_11
    rw [hfo] at c_11 hl
    refine lv_iload_n hx hb dX0_decodedAt_16 rfl (lv_at hl 3 rfl) ?_
    refine lv_iload_n hx hb dX0_decodedAt_17 rfl (lv_at hl 0 rfl) ?_
    refine lv_iadd hx hb dX0_decodedAt_18 ?_
    refine lv_topi (fun x_12 ex_12 => ?_)
    obtain rfl : x_12 = nI (fr + fo) := ex_12.trans (nI_add _ _)
    refine lv_aload_n hx hb dX0_decodedAt_19 rfl (lv_at hl 2 rfl) ?_
    refine va_get (D := (dC, dI)) (ci := 0) (v := .int (nI n)) (C := RX0) (T := TX0) (N := 7) hx hb hts hIn hown hK hP 0 rfl rfl 1 (by decide) (hts (.fieldLink RX0 19 RX0 "textLength" "I") (by decide +kernel)) (fun _ h9 => h9) rfl dX0_decodedAt_20 ?_
    refine lv_icmp_lt (tgt := 28) hx hb dX0_decodedAt_23 (by decide) (fun c_13 => ?_) (fun c_13 => ?_)
    · have hlt : fr + fo < n := (nI_ltI (by omega) (by omega)).mp c_13
      refine lv_iload_n hx hb dX0_decodedAt_28 rfl (lv_at hl 0 rfl) ?_
      refine lv_if_ne (tgt := 36) hx hb dX0_decodedAt_29 (by decide) (fun c_14 => ?_) (fun c_14 => ?_)
      · refine lv_iload_n hx hb dX0_decodedAt_36 rfl (lv_at hl 1 rfl) ?_
        refine lv_bipush (v := 63) hx hb dX0_decodedAt_37 (by decide) ?_
        refine lv_iload_n hx hb dX0_decodedAt_39 rfl (lv_at hl 0 rfl) ?_
        refine lv_ishr hx hb dX0_decodedAt_40 ?_
        refine lv_iand hx hb dX0_decodedAt_41 ?_
        refine lv_topi (fun x_15 ex_15 => ?_)
        refine lv_istore (lv' := [(4, .int x_15), (3, .int (nI fo)), (2, .int (tx fr)), (0, .ref h0), (1, .int (nI fr))]) hx hb dX0_decodedAt_42 hl (by decide) rfl (fun ls hl => ?_)
        refine lv_iconst (v := 1) hx hb dX0_decodedAt_44 (by decide) ?_
        refine lv_istore (lv' := [(5, .int 1), (4, .int x_15), (3, .int (nI fo)), (2, .int (tx fr)), (0, .ref h0), (1, .int (nI fr))]) hx hb dX0_decodedAt_45 hl (by decide) rfl (fun ls hl => ?_)
        exact hq0 fo hfo hf3 hlt fo 1 x_15 ls (by omega) (by omega) (fun r hr' => by rw [hr', ex_15]; simp only [xDec, hfo, nI_cl3 (fo := fo) (by omega), if_neg c_11, if_pos hlt, if_neg c_14]) (lv_sub hl [0, 1, 2, 3, 4, 5] rfl)
      · refine lv_iload_n hx hb dX0_decodedAt_32 rfl (lv_at hl 1 rfl) ?_
        refine lv_goto (tgt := 42) hx hb dX0_decodedAt_33 (by decide) ?_
        refine lv_istore (lv' := [(4, .int (tx fr)), (3, .int (nI fo)), (2, .int (tx fr)), (0, .ref h0), (1, .int (nI fr))]) hx hb dX0_decodedAt_42 hl (by decide) rfl (fun ls hl => ?_)
        refine lv_iconst (v := 1) hx hb dX0_decodedAt_44 (by decide) ?_
        refine lv_istore (lv' := [(5, .int 1), (4, .int (tx fr)), (3, .int (nI fo)), (2, .int (tx fr)), (0, .ref h0), (1, .int (nI fr))]) hx hb dX0_decodedAt_45 hl (by decide) rfl (fun ls hl => ?_)
        exact hq0 fo hfo hf3 hlt fo 1 (tx fr) ls (by omega) (by omega) (fun r hr' => by rw [hr']; simp only [xDec, hfo, nI_cl3 (fo := fo) (by omega), if_neg c_11, if_pos hlt, if_pos c_14]) (lv_sub hl [0, 1, 2, 3, 4, 5] rfl)
    · have hlt : ¬ fr + fo < n := fun q => c_13 ((nI_ltI (by omega) (by omega)).mpr q)
      refine lv_iconst (v := -1) hx hb dX0_decodedAt_26 (by decide) ?_
      exact W.iret (v := (-1)) hx hb hr (fun t ht hW => ⟨(-1), rfl, by simp only [xDec, hfo, nI_cl3 (fo := fo) (by omega), if_neg c_11, if_neg hlt], ht⟩) hS.2.2 dX0_decodedAt_27
