set_option maxHeartbeats 4000000 in
set_option maxRecDepth 100000 in
theorem c_X0_run (l : Launch) (dC : Nat → ClassId) (dI : Nat → Nat → Nat) (h0 h1 h2 h3 : Nat) (cA : ClassId) (t0 t1 t2 t3 : Nat) (tx : Nat → Int32) (n : Nat) (ch pl : Nat → Int32) (k : Nat) (rl : Int32) (fp : Int32) (kd i : Int32) (hk : k ≤ 1000) : Met l yX0_run wsX0_run ({ frames := 3, cells := 0, slots := 0, locals := 63 }) (va_Pc [.ref h0, .int kd, .int i] (fun U => xpre dC dI h0 h1 h2 h3 cA t0 t1 t2 t3 (tx, n, ch, pl, k, rl, fp) U)) (vp_Si (fun r => r = xRun ch k kd i)) 0 0 (fun _ => False) := by
  refine Met.ofW (cc := cX0_run) (maxL := 4) (ret := (some .int)) (by decide) rfl ?_
  intro p e s m args below meth c s₁ B hml hv
  obtain ⟨rfl, hP, hK, hT⟩ := hv
  have hx := B.exec
  have hb := B.bytes
  have hr := B.returns
  have hts := atoms_spec (ws := wsX0_run) B.pre
  have hown : s.vm.findClass RX0 = some m.cls := findClass_of_methodNamed B.named
  have hS : va_S (fun _ => False) s.heap s.heap [] := va_S.rf
  have hP : va_P (dC, dI) vwCl [(h0, .inr (0, [.ref h1, .int (nI n), .ref h2, .ref h3, .int (nI k), .int rl, .int fp])), (h1, .inl (cA, 1000, .inl tx)), (h2, .inl (cA, 1000, .inl ch)), (h3, .inl (cA, 1000, .inl pl))] s.heap := hP
  have hIn : ∀ w ∈ wsX00, w ∈ wsX0_run := by decide +kernel
  obtain ⟨hz0, ht0, hz1, ht1, hz2, ht2, hz3, ht3⟩ := id hT
  have hl := lv_entry ([.ref h0, .int kd, .int i]) (n := 4) (Nat.le_of_ble_eq_true rfl)
  rw [lg_entry_eq]
  generalize (lg_sl ([.ref h0, .int kd, .int i]) ++ List.replicate (4 - (lg_sl ([.ref h0, .int kd, .int i])).length) Slot.unset).toArray = ls at hl ⊢
  have hl : lv_has ls 4 [(0, .ref h0), (1, .int kd), (2, .int i)] := hl
  refine lv_aload_n hx hb dX0_run_0 rfl (lv_at hl 0 rfl) ?_
  refine lv_iload_n hx hb dX0_run_1 rfl (lv_at hl 2 rfl) ?_
  refine vp_callSi (W.runV (As := [.int i]) (rest := []) ⟨hx, hb, hml, hown, hts⟩ (c_X0_hasCharacter l dC dI h0 h1 h2 h3 cA t0 t1 t2 t3 tx n ch pl k rl fp i) (cwV 1 hts gX0_run_X0_hasCharacter rfl rfl rfl (by decide +kernel) ⟨Nat.le_of_ble_eq_true rfl, Nat.le_of_ble_eq_true rfl⟩) ⟨xpre_blind, va_recv hK hP (ci := 0) (q0 := 0) rfl rfl, fun U hU hW => ⟨rfl, xpre_of hP hK hT hS hU hW⟩⟩ rfl rfl hl.1 rfl (lv_room (Nat.le_of_ble_eq_true rfl)) dX0_run_2 ⟨Nat.le_of_ble_eq_true rfl, Nat.le_of_ble_eq_true rfl⟩) (fun r_1 er_1 => ?_)
  obtain rfl : r_1 = bI (xHas k i) := er_1
  refine lv_if_ne (tgt := 10) hx hb dX0_run_5 (by decide) (fun c_2 => ?_) (fun c_2 => ?_)
  · have c_2 := bI_n0 c_2
    obtain ⟨j, hj, rfl⟩ := xHas_of hk c_2
    have hcl : (nI j).toNatClampNeg = j := nI_clamp (by omega)
    have loop : ∀ (d q : Nat) (ls : Array Slot), q + d = k → j ≤ q → (∀ r, r = nI (runEnd (fun z => xBel kd (ch z)) d q - j) → r = xRun ch k kd (nI j)) → lv_has ls 4 [(3, .int (nI q)), (0, .ref h0), (1, .int kd), (2, .int (nI j))] → W p l e (headSpec wsX0_run ({ frames := 3, cells := 0, slots := 0, locals := 63 })).room s m ([.ref h0, .int kd, .int (nI j)] : List Value).toArray below meth c s.heap [] 0 0 (MQ below (vp_Si (fun r => r = xRun ch k kd (nI j))) ([.ref h0, .int kd, .int (nI j)] : List Value).toArray s 0 0 (fun _ => False)) (F0 m 33 ls []) := by
      intro d
      induction d with
      | zero =>
        intro q ls hq hjq hpost hl
        refine lv_iload_n hx hb dX0_run_33 rfl (lv_at hl 0 rfl) ?_
        refine lv_aload_n hx hb dX0_run_34 rfl (lv_at hl 1 rfl) ?_
        refine va_get (D := (dC, dI)) (ci := 0) (v := .int (nI k)) (C := RX0) (T := TX0) (N := 7) hx hb hts hIn hown hK hP 0 rfl rfl 4 (by decide) (hts (.fieldLink RX0 23 RX0 "count" "I") (by decide +kernel)) (fun _ h9 => h9) rfl dX0_run_35 ?_
        refine lv_icmp_ge (tgt := 60) hx hb dX0_run_38 (by decide) (fun c_3 => ?_) (fun c_3 => ?_)
        · refine lv_iload_n hx hb dX0_run_60 rfl (lv_at hl 0 rfl) ?_
          refine lv_iload_n hx hb dX0_run_61 rfl (lv_at hl 3 rfl) ?_
          refine lv_isub hx hb dX0_run_62 ?_
          refine lv_topi (fun x_4 ex_4 => ?_)
          obtain rfl : x_4 = nI (q - j) := ex_4.trans (pk_sub (by omega))
          exact W.iret (v := nI (q - j)) hx hb hr (fun t ht hW => ⟨nI (q - j), rfl, hpost _ (by simp only [runEnd]), ht⟩) hS.2.2 dX0_run_63
        · exact absurd (nI_le (by omega) (by omega)) c_3
      | succ d ih =>
        intro q ls hq hjq hpost hl
        refine lv_iload_n hx hb dX0_run_33 rfl (lv_at hl 0 rfl) ?_
        refine lv_aload_n hx hb dX0_run_34 rfl (lv_at hl 1 rfl) ?_
        refine va_get (D := (dC, dI)) (ci := 0) (v := .int (nI k)) (C := RX0) (T := TX0) (N := 7) hx hb hts hIn hown hK hP 0 rfl rfl 4 (by decide) (hts (.fieldLink RX0 23 RX0 "count" "I") (by decide +kernel)) (fun _ h9 => h9) rfl dX0_run_35 ?_
        refine lv_icmp_ge (tgt := 60) hx hb dX0_run_38 (by decide) (fun c_5 => ?_) (fun c_5 => ?_)
        · exact absurd c_5 (nI_ge (by omega) (by omega))
        · refine lv_iload_n hx hb dX0_run_41 rfl (lv_at hl 2 rfl) ?_
          refine lv_aload_n hx hb dX0_run_42 rfl (lv_at hl 1 rfl) ?_
          refine va_get (D := (dC, dI)) (ci := 0) (v := .ref h2) (C := RX0) (T := TX0) (N := 7) hx hb hts hIn hown hK hP 0 rfl rfl 2 (by decide) (hts (.fieldLink RX0 13 RX0 "characters" "[I") (by decide +kernel)) (fun _ h9 => h9) rfl dX0_run_43 ?_
          refine lv_iload_n hx hb dX0_run_46 rfl (lv_at hl 0 rfl) ?_
          refine va_iald hx hb hK hP 2 0 rfl rfl (vp_in_nI (by omega) (by omega)) dX0_run_47 ?_
          refine lv_topi (fun x_6 ex_6 => ?_)
          obtain rfl : x_6 = ch q := ex_6.trans (by rw [nI_clamp (by omega)])
          refine vp_callSi (W.runS (As := [.int kd, .int (ch q)]) (rest := []) ⟨hx, hb, hml, hown, hts⟩ (c_X0_belongsToRun l t0 t1 t2 t3 kd (ch q)) (va_cwS 2 hts gX0_run_X0_belongsToRun rfl rfl rfl (by decide +kernel) ⟨Nat.le_of_ble_eq_true rfl, Nat.le_of_ble_eq_true rfl⟩) ⟨xtab_blind, fun U hU hW => ⟨rfl, xtab_call hT hS hU hW (fun _ q => q.elim)⟩⟩ rfl rfl hl.1 rfl (lv_room (Nat.le_of_ble_eq_true rfl)) dX0_run_48 ⟨Nat.le_of_ble_eq_true rfl, Nat.le_of_ble_eq_true rfl⟩) (fun r_7 er_7 => ?_)
          obtain rfl : r_7 = bI (xBel kd (ch q)) := er_7
          refine lv_if_eq (tgt := 60) hx hb dX0_run_51 (by decide) (fun c_8 => ?_) (fun c_8 => ?_)
          · have c_8 := bI_0 c_8
            refine lv_iload_n hx hb dX0_run_60 rfl (lv_at hl 0 rfl) ?_
            refine lv_iload_n hx hb dX0_run_61 rfl (lv_at hl 3 rfl) ?_
            refine lv_isub hx hb dX0_run_62 ?_
            refine lv_topi (fun x_9 ex_9 => ?_)
            obtain rfl : x_9 = nI (q - j) := ex_9.trans (pk_sub (by omega))
            exact W.iret (v := nI (q - j)) hx hb hr (fun t ht hW => ⟨nI (q - j), rfl, hpost _ (by simp only [runEnd, if_neg c_8]), ht⟩) hS.2.2 dX0_run_63
          · have c_8 := bI_n0 c_8
            refine lv_iinc (v := nI (q + 1)) (lv' := [(3, .int (nI (q + 1))), (0, .ref h0), (1, .int kd), (2, .int (nI j))]) hx hb dX0_run_54 hl (k := 0) rfl (nI_1 _) (by decide) rfl (fun ls hl => ?_)
            refine lv_goto (tgt := 33) hx hb dX0_run_57 (by decide) ?_
            exact ih (q + 1) ls (by omega) (by omega) (fun r hr' => hpost r (by rw [hr']; simp only [runEnd, if_pos c_8])) (lv_sub hl [0, 1, 2, 3] rfl)
    refine lv_iload_n hx hb dX0_run_10 rfl (lv_at hl 1 rfl) ?_
    refine lv_if_ne (tgt := 31) hx hb dX0_run_11 (by decide) (fun c_10 => ?_) (fun c_10 => ?_)
    · refine lv_iload_n hx hb dX0_run_31 rfl (lv_at hl 2 rfl) ?_
      refine lv_istore_n (lv' := [(3, .int (nI j)), (0, .ref h0), (1, .int kd), (2, .int (nI j))]) hx hb dX0_run_32 rfl hl (by decide) rfl (fun ls hl => ?_)
      exact loop (k - j) j ls (by omega) (by omega) (fun r hr' => by rw [hr']; simp only [xRun, hcl, if_pos c_2, if_neg c_10]) (lv_sub hl [0, 1, 2, 3] rfl)
    · refine va_gets hx hb hz2 hS hown (hts (.fieldLink RX0 68 RX0 "NAME_BEGINS" "[I") (by decide +kernel)) (fun _ h9 => h9) dX0_run_14 ?_
      refine lv_aload_n hx hb dX0_run_17 rfl (lv_at hl 0 rfl) ?_
      refine va_get (D := (dC, dI)) (ci := 0) (v := .ref h2) (C := RX0) (T := TX0) (N := 7) hx hb hts hIn hown hK hP 0 rfl rfl 2 (by decide) (hts (.fieldLink RX0 13 RX0 "characters" "[I") (by decide +kernel)) (fun _ h9 => h9) rfl dX0_run_18 ?_
      refine lv_iload_n hx hb dX0_run_21 rfl (lv_at hl 2 rfl) ?_
      refine va_iald hx hb hK hP 2 0 rfl rfl (vp_in_nI (by omega) (by omega)) dX0_run_22 ?_
      refine lv_topi (fun x_11 ex_11 => ?_)
      obtain rfl : x_11 = ch j := ex_11.trans (by rw [nI_clamp (by omega)])
      refine vp_callSi (W.runS (As := [.ref t2, .int (ch j)]) (rest := []) ⟨hx, hb, hml, hown, hts⟩ (c_X0_isIn l t2 16 fNB (ch j) (by decide)) (va_cwS 2 hts gX0_run_X0_isIn rfl rfl rfl (by decide +kernel) ⟨Nat.le_of_ble_eq_true rfl, Nat.le_of_ble_eq_true rfl⟩) ⟨fun _ U g mk q => ⟨q.1, va_T.moved (u := U) (U := U.calling g mk _) (Vm.Alike.refl U.vm) q.2⟩, fun U hU hW => ⟨rfl, tb_T ht2 hS hU hW⟩⟩ rfl rfl hl.1 rfl (lv_room (Nat.le_of_ble_eq_true rfl)) dX0_run_23 ⟨Nat.le_of_ble_eq_true rfl, Nat.le_of_ble_eq_true rfl⟩) (fun r_12 er_12 => ?_)
      obtain rfl : r_12 = bI (xIn fNB (ch j) 16) := er_12
      refine lv_if_ne (tgt := 31) hx hb dX0_run_26 (by decide) (fun c_13 => ?_) (fun c_13 => ?_)
      · have c_13 := bI_n0 c_13
        refine lv_iload_n hx hb dX0_run_31 rfl (lv_at hl 2 rfl) ?_
        refine lv_istore_n (lv' := [(3, .int (nI j)), (0, .ref h0), (1, .int kd), (2, .int (nI j))]) hx hb dX0_run_32 rfl hl (by decide) rfl (fun ls hl => ?_)
        exact loop (k - j) j ls (by omega) (by omega) (fun r hr' => by rw [hr']; simp only [xRun, hcl, if_pos c_2, if_pos c_10, if_pos c_13]) (lv_sub hl [0, 1, 2, 3] rfl)
      · have c_13 := bI_0 c_13
        refine lv_iconst (v := 0) hx hb dX0_run_29 (by decide) ?_
        exact W.iret (v := 0) hx hb hr (fun t ht hW => ⟨0, rfl, by simp only [xRun, hcl, if_pos c_2, if_pos c_10, if_neg c_13], ht⟩) hS.2.2 dX0_run_30
  · have c_2 := bI_0 c_2
    refine lv_iconst (v := 0) hx hb dX0_run_8 (by decide) ?_
    exact W.iret (v := 0) hx hb hr (fun t ht hW => ⟨0, rfl, by simp only [xRun, if_neg c_2], ht⟩) hS.2.2 dX0_run_9
set_option maxHeartbeats 4000000 in
set_option maxRecDepth 100000 in
/-- Integer.compare -/
theorem c_icmp (l : Launch) (a b : Int32) : Met l yJ6_compare_7cf53 wsJ6_compare_7cf53 ({ frames := 0, cells := 0, slots := 0, locals := 0 }) (va_Pc [.int a, .int b] (fun U => True)) (vp_Si (fun r => r = xIcmp a b)) 0 0 (fun _ => False) := by
  refine Met.ofW (cc := cJ6_compare_7cf53) (maxL := 2) (ret := (some .int)) (by decide) rfl ?_
  intro p e s m args below meth c s₁ B hml hv
  obtain ⟨rfl, -⟩ := hv
  have hx := B.exec
  have hb := B.bytes
  have hr := B.returns
  have hts := atoms_spec (ws := wsJ6_compare_7cf53) B.pre
  have hown : s.vm.findClass RJ6 = some m.cls := findClass_of_methodNamed B.named
  have hS : va_S (fun _ => False) s.heap s.heap [] := va_S.rf
  have hl := lv_entry ([.int a, .int b]) (n := 2) (Nat.le_of_ble_eq_true rfl)
  rw [lg_entry_eq]
  generalize (lg_sl ([.int a, .int b]) ++ List.replicate (2 - (lg_sl ([.int a, .int b])).length) Slot.unset).toArray = ls at hl ⊢
  have hl : lv_has ls 2 [(0, .int a), (1, .int b)] := hl
  refine lv_iload_n hx hb dJ6_compare_7cf53_0 rfl (lv_at hl 0 rfl) ?_
  refine lv_iload_n hx hb dJ6_compare_7cf53_1 rfl (lv_at hl 1 rfl) ?_
  refine lv_icmp_ge (tgt := 9) hx hb dJ6_compare_7cf53_2 (by decide) (fun c_1 => ?_) (fun c_1 => ?_)
  · refine lv_iload_n hx hb dJ6_compare_7cf53_9 rfl (lv_at hl 0 rfl) ?_
    refine lv_iload_n hx hb dJ6_compare_7cf53_10 rfl (lv_at hl 1 rfl) ?_
    refine lv_icmp_ne (tgt := 18) hx hb dJ6_compare_7cf53_11 (by decide) (fun c_2 => ?_) (fun c_2 => ?_)
    · refine lv_iconst (v := 1) hx hb dJ6_compare_7cf53_18 (by decide) ?_
      exact W.iret (v := 1) hx hb hr (fun t ht hW => ⟨1, rfl, by first | (simp only [xIcmp, if_pos c_1, if_neg c_2, bI_t, bI_f]; done) | (simp only [xIcmp, if_pos c_1, if_neg c_2, bI_t, bI_f]; rfl), ht⟩) hS.2.2 dJ6_compare_7cf53_19
    · refine lv_iconst (v := 0) hx hb dJ6_compare_7cf53_14 (by decide) ?_
      refine lv_goto (tgt := 19) hx hb dJ6_compare_7cf53_15 (by decide) ?_
      exact W.iret (v := 0) hx hb hr (fun t ht hW => ⟨0, rfl, by first | (simp only [xIcmp, if_pos c_1, if_pos c_2, bI_t, bI_f]; done) | (simp only [xIcmp, if_pos c_1, if_pos c_2, bI_t, bI_f]; rfl), ht⟩) hS.2.2 dJ6_compare_7cf53_19
  · refine lv_iconst (v := -1) hx hb dJ6_compare_7cf53_5 (by decide) ?_
    refine lv_goto (tgt := 19) hx hb dJ6_compare_7cf53_6 (by decide) ?_
    exact W.iret (v := (-1)) hx hb hr (fun t ht hW => ⟨(-1), rfl, by first | (simp only [xIcmp, if_neg c_1, bI_t, bI_f]; done) | (simp only [xIcmp, if_neg c_1, bI_t, bI_f]; rfl), ht⟩) hS.2.2 dJ6_compare_7cf53_19
set_option maxHeartbeats 4000000 in
set_option maxRecDepth 100000 in
theorem c_X0_compare (l : Launch) (dC : Nat → ClassId) (dI : Nat → Nat → Nat) (h0 h1 h2 h3 : Nat) (cA : ClassId) (t0 t1 t2 t3 : Nat) (tx : Nat → Int32) (n : Nat) (ch pl : Nat → Int32) (k : Nat) (rl : Int32) (fp : Int32) (i j q : Int32) (hk : k ≤ 1000) : Met l yX0_compare wsX0_compare ({ frames := 1, cells := 0, slots := 0, locals := 22 }) (va_Pc [.ref h0, .int i, .int j, .int q] (fun U => xpre dC dI h0 h1 h2 h3 cA t0 t1 t2 t3 (tx, n, ch, pl, k, rl, fp) U)) (vp_Si (fun r => r = xCmp ch rl k i j q)) 0 0 (fun _ => False) := by
  refine Met.ofW (cc := cX0_compare) (maxL := 6) (ret := (some .int)) (by decide) rfl ?_
  intro p e s m args below meth c s₁ B hml hv
  obtain ⟨rfl, hP, hK, hT⟩ := hv
  have hx := B.exec
  have hb := B.bytes
  have hr := B.returns
  have hts := atoms_spec (ws := wsX0_compare) B.pre
  have hown : s.vm.findClass RX0 = some m.cls := findClass_of_methodNamed B.named
  have hS : va_S (fun _ => False) s.heap s.heap [] := va_S.rf
  have hP : va_P (dC, dI) vwCl [(h0, .inr (0, [.ref h1, .int (nI n), .ref h2, .ref h3, .int (nI k), .int rl, .int fp])), (h1, .inl (cA, 1000, .inl tx)), (h2, .inl (cA, 1000, .inl ch)), (h3, .inl (cA, 1000, .inl pl))] s.heap := hP
  have hIn : ∀ w ∈ wsX00, w ∈ wsX0_compare := by decide +kernel
  obtain ⟨hz0, ht0, hz1, ht1, hz2, ht2, hz3, ht3⟩ := id hT
  have hl := lv_entry ([.ref h0, .int i, .int j, .int q]) (n := 6) (Nat.le_of_ble_eq_true rfl)
  rw [lg_entry_eq]
  generalize (lg_sl ([.ref h0, .int i, .int j, .int q]) ++ List.replicate (6 - (lg_sl ([.ref h0, .int i, .int j, .int q])).length) Slot.unset).toArray = ls at hl ⊢
  have hl : lv_has ls 6 [(0, .ref h0), (1, .int i), (2, .int j), (3, .int q)] := hl
  refine lv_aload_n hx hb dX0_compare_0 rfl (lv_at hl 0 rfl) ?_
  refine lv_iload_n hx hb dX0_compare_1 rfl (lv_at hl 1 rfl) ?_
  refine lv_iload_n hx hb dX0_compare_2 rfl (lv_at hl 3 rfl) ?_
  refine vp_callSi (W.runV (As := [.int i, .int q]) (rest := []) ⟨hx, hb, hml, hown, hts⟩ (c_X0_hasStretch l dC dI h0 h1 h2 h3 cA t0 t1 t2 t3 tx n ch pl k rl fp i q) (cwV 2 hts gX0_compare_X0_hasStretch rfl rfl rfl (by decide +kernel) ⟨Nat.le_of_ble_eq_true rfl, Nat.le_of_ble_eq_true rfl⟩) ⟨xpre_blind, va_recv hK hP (ci := 0) (q0 := 0) rfl rfl, fun U hU hW => ⟨rfl, xpre_of hP hK hT hS hU hW⟩⟩ rfl rfl hl.1 rfl (lv_room (Nat.le_of_ble_eq_true rfl)) dX0_compare_3 ⟨Nat.le_of_ble_eq_true rfl, Nat.le_of_ble_eq_true rfl⟩) (fun r_1 er_1 => ?_)
  obtain rfl : r_1 = bI (xStr rl k i q) := er_1
  refine lv_if_eq (tgt := 18) hx hb dX0_compare_6 (by decide) (fun c_2 => ?_) (fun c_2 => ?_)
  · have c_2 := bI_0 c_2
    refine lv_bipush (v := -2) hx hb dX0_compare_18 (by decide) ?_
    exact W.iret (v := (-2)) hx hb hr (fun t ht hW => ⟨(-2), rfl, by first | (simp only [xCmp, if_neg c_2, bI_t, bI_f]; done) | (simp only [xCmp, if_neg c_2, bI_t, bI_f]; rfl), ht⟩) hS.2.2 dX0_compare_20
  · have c_2 := bI_n0 c_2
    refine lv_aload_n hx hb dX0_compare_9 rfl (lv_at hl 0 rfl) ?_
    refine lv_iload_n hx hb dX0_compare_10 rfl (lv_at hl 2 rfl) ?_
    refine lv_iload_n hx hb dX0_compare_11 rfl (lv_at hl 3 rfl) ?_
    refine vp_callSi (W.runV (As := [.int j, .int q]) (rest := []) ⟨hx, hb, hml, hown, hts⟩ (c_X0_hasStretch l dC dI h0 h1 h2 h3 cA t0 t1 t2 t3 tx n ch pl k rl fp j q) (cwV 2 hts gX0_compare_X0_hasStretch rfl rfl rfl (by decide +kernel) ⟨Nat.le_of_ble_eq_true rfl, Nat.le_of_ble_eq_true rfl⟩) ⟨xpre_blind, va_recv hK hP (ci := 0) (q0 := 0) rfl rfl, fun U hU hW => ⟨rfl, xpre_of hP hK hT hS hU hW⟩⟩ rfl rfl hl.1 rfl (lv_room (Nat.le_of_ble_eq_true rfl)) dX0_compare_12 ⟨Nat.le_of_ble_eq_true rfl, Nat.le_of_ble_eq_true rfl⟩) (fun r_3 er_3 => ?_)
    obtain rfl : r_3 = bI (xStr rl k j q) := er_3
    refine lv_if_ne (tgt := 21) hx hb dX0_compare_15 (by decide) (fun c_4 => ?_) (fun c_4 => ?_)
    · have c_4 := bI_n0 c_4
      obtain ⟨a, q', ha, hi', hq'⟩ := xStr_of hk c_2
      obtain ⟨b, q2, hb2, hj', hq2⟩ := xStr_of hk c_4
      obtain rfl : q' = q2 := (nI_eq (by omega) (by omega)).mp (hq'.symm.trans hq2)
      subst hi' hj' hq'
      have hc1 : (nI a).toNatClampNeg = a := nI_clamp (by omega)
      have hc2 : (nI b).toNatClampNeg = b := nI_clamp (by omega)
      have hc3 : (nI q').toNatClampNeg = q' := nI_clamp (by omega)
      have loop : ∀ (d z : Nat) (ls : Array Slot), z + d = q' → (∀ r, r = cmpAt (fun y => ch (a + y)) (fun y => ch (b + y)) d z → r = xCmp ch rl k (nI a) (nI b) (nI q')) → lv_has ls 6 [(4, .int (nI z)), (0, .ref h0), (1, .int (nI a)), (2, .int (nI b)), (3, .int (nI q'))] → W p l e (headSpec wsX0_compare ({ frames := 1, cells := 0, slots := 0, locals := 22 })).room s m ([.ref h0, .int (nI a), .int (nI b), .int (nI q')] : List Value).toArray below meth c s.heap [] 0 0 (MQ below (vp_Si (fun r => r = xCmp ch rl k (nI a) (nI b) (nI q'))) ([.ref h0, .int (nI a), .int (nI b), .int (nI q')] : List Value).toArray s 0 0 (fun _ => False)) (F0 m 24 ls []) := by
        intro d
        induction d with
        | zero =>
          intro z ls hz hpost hl
          refine lv_iload hx hb dX0_compare_24 (lv_at hl 0 rfl) ?_
          refine lv_iload_n hx hb dX0_compare_26 rfl (lv_at hl 4 rfl) ?_
          refine lv_icmp_ge (tgt := 75) hx hb dX0_compare_27 (by decide) (fun c_5 => ?_) (fun c_5 => ?_)
          · refine lv_iconst (v := 0) hx hb dX0_compare_75 (by decide) ?_
            exact W.iret (v := 0) hx hb hr (fun t ht hW => ⟨0, rfl, hpost _ (by simp only [cmpAt]), ht⟩) hS.2.2 dX0_compare_76
          · exact absurd (nI_le (by omega) (by omega)) c_5
        | succ d ih =>
          intro z ls hz hpost hl
          refine lv_iload hx hb dX0_compare_24 (lv_at hl 0 rfl) ?_
          refine lv_iload_n hx hb dX0_compare_26 rfl (lv_at hl 4 rfl) ?_
          refine lv_icmp_ge (tgt := 75) hx hb dX0_compare_27 (by decide) (fun c_6 => ?_) (fun c_6 => ?_)
          · exact absurd c_6 (nI_ge (by omega) (by omega))
          · refine lv_aload_n hx hb dX0_compare_30 rfl (lv_at hl 1 rfl) ?_
            refine va_get (D := (dC, dI)) (ci := 0) (v := .ref h2) (C := RX0) (T := TX0) (N := 7) hx hb hts hIn hown hK hP 0 rfl rfl 2 (by decide) (hts (.fieldLink RX0 13 RX0 "characters" "[I") (by decide +kernel)) (fun _ h9 => h9) rfl dX0_compare_31 ?_
            refine lv_iload_n hx hb dX0_compare_34 rfl (lv_at hl 2 rfl) ?_
            refine lv_iload hx hb dX0_compare_35 (lv_at hl 0 rfl) ?_
            refine lv_iadd hx hb dX0_compare_37 ?_
            refine lv_topi (fun x_7 ex_7 => ?_)
            obtain rfl : x_7 = nI (a + z) := ex_7.trans (nI_add _ _)
            refine va_iald hx hb hK hP 2 0 rfl rfl (vp_in_nI (by omega) (by omega)) dX0_compare_38 ?_
            refine lv_topi (fun x_8 ex_8 => ?_)
            obtain rfl : x_8 = ch (a + z) := ex_8.trans (by rw [nI_clamp (by omega)])
            refine lv_aload_n hx hb dX0_compare_39 rfl (lv_at hl 1 rfl) ?_
            refine va_get (D := (dC, dI)) (ci := 0) (v := .ref h2) (C := RX0) (T := TX0) (N := 7) hx hb hts hIn hown hK hP 0 rfl rfl 2 (by decide) (hts (.fieldLink RX0 13 RX0 "characters" "[I") (by decide +kernel)) (fun _ h9 => h9) rfl dX0_compare_40 ?_
            refine lv_iload_n hx hb dX0_compare_43 rfl (lv_at hl 3 rfl) ?_
            refine lv_iload hx hb dX0_compare_44 (lv_at hl 0 rfl) ?_
            refine lv_iadd hx hb dX0_compare_46 ?_
            refine lv_topi (fun x_9 ex_9 => ?_)
            obtain rfl : x_9 = nI (b + z) := ex_9.trans (nI_add _ _)
            refine va_iald hx hb hK hP 2 0 rfl rfl (vp_in_nI (by omega) (by omega)) dX0_compare_47 ?_
            refine lv_topi (fun x_10 ex_10 => ?_)
            obtain rfl : x_10 = ch (b + z) := ex_10.trans (by rw [nI_clamp (by omega)])
            refine vp_callSi (W.runS (As := [.int (ch (a + z)), .int (ch (b + z))]) (rest := []) ⟨hx, hb, hml, hown, hts⟩ (c_icmp l (ch (a + z)) (ch (b + z))) (va_cwS 2 hts gX0_compare_J6_compare_7cf53 rfl rfl rfl (by decide +kernel) ⟨Nat.le_of_ble_eq_true rfl, Nat.le_of_ble_eq_true rfl⟩) ⟨fun _ _ _ _ q => q, fun U hU hW => ⟨rfl, trivial⟩⟩ rfl rfl hl.1 rfl (lv_room (Nat.le_of_ble_eq_true rfl)) dX0_compare_48 ⟨Nat.le_of_ble_eq_true rfl, Nat.le_of_ble_eq_true rfl⟩) (fun r_11 er_11 => ?_)
            obtain rfl : r_11 = xIcmp (ch (a + z)) (ch (b + z)) := er_11
            refine lv_istore (lv' := [(5, .int (xIcmp (ch (a + z)) (ch (b + z)))), (4, .int (nI z)), (0, .ref h0), (1, .int (nI a)), (2, .int (nI b)), (3, .int (nI q'))]) hx hb dX0_compare_51 hl (by decide) rfl (fun ls hl => ?_)
            refine lv_iload hx hb dX0_compare_53 (lv_at hl 0 rfl) ?_
            refine lv_if_eq (tgt := 69) hx hb dX0_compare_55 (by decide) (fun c_12 => ?_) (fun c_12 => ?_)
            · refine lv_iinc (v := nI (z + 1)) (lv' := [(4, .int (nI (z + 1))), (5, .int (xIcmp (ch (a + z)) (ch (b + z)))), (0, .ref h0), (1, .int (nI a)), (2, .int (nI b)), (3, .int (nI q'))]) hx hb dX0_compare_69 hl (k := 1) rfl (nI_1 _) (by decide) rfl (fun ls hl => ?_)
              refine lv_goto (tgt := 24) hx hb dX0_compare_72 (by decide) ?_
              exact ih (z + 1) ls (by omega) (fun r hr' => hpost r (by rw [hr']; exact (cmpAt_eq c_12).symm)) (lv_sub hl [0, 2, 3, 4, 5] rfl)
            · refine lv_iload hx hb dX0_compare_58 (lv_at hl 0 rfl) ?_
              refine lv_if_ge (tgt := 67) hx hb dX0_compare_60 (by decide) (fun c_13 => ?_) (fun c_13 => ?_)
              · refine lv_iconst (v := 1) hx hb dX0_compare_67 (by decide) ?_
                exact W.iret (v := 1) hx hb hr (fun t ht hW => ⟨1, rfl, hpost _ (cmpAt_gt c_12 c_13), ht⟩) hS.2.2 dX0_compare_68
              · refine lv_iconst (v := -1) hx hb dX0_compare_63 (by decide) ?_
                refine lv_goto (tgt := 68) hx hb dX0_compare_64 (by decide) ?_
                exact W.iret (v := (-1)) hx hb hr (fun t ht hW => ⟨(-1), rfl, hpost _ (cmpAt_lt c_12 c_13), ht⟩) hS.2.2 dX0_compare_68
      refine lv_iconst (v := 0) hx hb dX0_compare_21 (by decide) ?_
      refine lv_istore (lv' := [(4, .int 0), (0, .ref h0), (1, .int (nI a)), (2, .int (nI b)), (3, .int (nI q'))]) hx hb dX0_compare_22 hl (by decide) rfl (fun ls hl => ?_)
      exact loop q' 0 ls (by omega) (fun r hr' => by rw [hr']; simp only [xCmp, hc1, hc2, hc3, if_pos c_2, if_pos c_4]) (lv_sub hl [0, 1, 2, 3, 4] rfl)
    · have c_4 := bI_0 c_4
      refine lv_bipush (v := -2) hx hb dX0_compare_18 (by decide) ?_
      exact W.iret (v := (-2)) hx hb hr (fun t ht hW => ⟨(-2), rfl, by first | (simp only [xCmp, if_pos c_2, if_neg c_4, bI_t, bI_f]; done) | (simp only [xCmp, if_pos c_2, if_neg c_4, bI_t, bI_f]; rfl), ht⟩) hS.2.2 dX0_compare_20
set_option maxHeartbeats 4000000 in
set_option maxRecDepth 100000 in
theorem c_X0_bytes (l : Launch) (dC : Nat → ClassId) (dI : Nat → Nat → Nat) (h0 h1 h2 h3 : Nat) (cA : ClassId) (t0 t1 t2 t3 : Nat) (tx : Nat → Int32) (n : Nat) (ch pl : Nat → Int32) (k : Nat) (rl : Int32) (fp : Int32) (v : Int32) : Met l yX0_bytes wsX0_bytes ({ frames := 2, cells := 0, slots := 0, locals := 43 }) (va_Pc [.ref h0, .int v] (fun U => xpre dC dI h0 h1 h2 h3 cA t0 t1 t2 t3 (tx, n, ch, pl, k, rl, fp) U)) (vp_Sl (fun r => r = xBytes v)) 0 0 (fun _ => False) := by
  refine Met.ofW (cc := cX0_bytes) (maxL := 6) (ret := (some .long)) (by decide) rfl ?_
  intro p e s m args below meth c s₁ B hml hv
  obtain ⟨rfl, hP, hK, hT⟩ := hv
  have hx := B.exec
  have hb := B.bytes
  have hr := B.returns
  have hts := atoms_spec (ws := wsX0_bytes) B.pre
  have hown : s.vm.findClass RX0 = some m.cls := findClass_of_methodNamed B.named
  have hS : va_S (fun _ => False) s.heap s.heap [] := va_S.rf
  have hP : va_P (dC, dI) vwCl [(h0, .inr (0, [.ref h1, .int (nI n), .ref h2, .ref h3, .int (nI k), .int rl, .int fp])), (h1, .inl (cA, 1000, .inl tx)), (h2, .inl (cA, 1000, .inl ch)), (h3, .inl (cA, 1000, .inl pl))] s.heap := hP
  obtain ⟨hz0, ht0, hz1, ht1, hz2, ht2, hz3, ht3⟩ := id hT
  have hl := lv_entry ([.ref h0, .int v]) (n := 6) (Nat.le_of_ble_eq_true rfl)
  rw [lg_entry_eq]
  generalize (lg_sl ([.ref h0, .int v]) ++ List.replicate (6 - (lg_sl ([.ref h0, .int v])).length) Slot.unset).toArray = ls at hl ⊢
  have hl : lv_has ls 6 [(0, .ref h0), (1, .int v)] := hl
  obtain ⟨wd, hw4, hwd⟩ := xWidth_nat v
  have hcw : (nI wd).toNatClampNeg = wd := nI_clamp (by omega)
  have loop : ∀ (d q : Nat) (acc : Int64) (ls : Array Slot), q + d = wd → acc = xPk v (nI wd) q → lv_has ls 6 [(5, .int (nI q)), (3, .long acc), (2, .int (nI wd)), (0, .ref h0), (1, .int v)] → W p l e (headSpec wsX0_bytes ({ frames := 2, cells := 0, slots := 0, locals := 43 })).room s m ([.ref h0, .int v] : List Value).toArray below meth c s.heap [] 0 0 (MQ below (vp_Sl (fun r => r = xBytes v)) ([.ref h0, .int v] : List Value).toArray s 0 0 (fun _ => False)) (F0 m 14 ls []) := by
    intro d
    induction d with
    | zero =>
      intro q acc ls hq hacc hl
      refine lv_iload hx hb dX0_bytes_14 (lv_at hl 0 rfl) ?_
      refine lv_iload_n hx hb dX0_bytes_16 rfl (lv_at hl 2 rfl) ?_
      refine lv_icmp_ge (tgt := 46) hx hb dX0_bytes_17 (by decide) (fun c_1 => ?_) (fun c_1 => ?_)
      · refine lv_lload_n hx hb dX0_bytes_46 rfl (lv_at hl 1 rfl) ?_
        exact W.lret (v := acc) hx hb hr (fun t ht hW => ⟨acc, rfl, (by rw [hacc, xBytes, hwd, hcw, show q = wd by omega]), ht⟩) hS.2.2 dX0_bytes_47
      · exact absurd (nI_le (by omega) (by omega)) c_1
    | succ d ih =>
      intro q acc ls hq hacc hl
      refine lv_iload hx hb dX0_bytes_14 (lv_at hl 0 rfl) ?_
      refine lv_iload_n hx hb dX0_bytes_16 rfl (lv_at hl 2 rfl) ?_
      refine lv_icmp_ge (tgt := 46) hx hb dX0_bytes_17 (by decide) (fun c_2 => ?_) (fun c_2 => ?_)
      · exact absurd c_2 (nI_ge (by omega) (by omega))
      · refine lv_lload_n hx hb dX0_bytes_20 rfl (lv_at hl 1 rfl) ?_
        refine lv_iload_n hx hb dX0_bytes_21 rfl (lv_at hl 4 rfl) ?_
        refine lv_iload_n hx hb dX0_bytes_22 rfl (lv_at hl 2 rfl) ?_
        refine lv_iload hx hb dX0_bytes_23 (lv_at hl 0 rfl) ?_
        refine vp_callSi (W.runS (As := [.int v, .int (nI wd), .int (nI q)]) (rest := [.long acc]) ⟨hx, hb, hml, hown, hts⟩ (c_X0_encodedByte l v (nI wd) (nI q)) (va_cwS 3 hts gX0_bytes_X0_encodedByte rfl rfl rfl (by decide +kernel) ⟨Nat.le_of_ble_eq_true rfl, Nat.le_of_ble_eq_true rfl⟩) ⟨fun _ _ _ _ q => q, fun U hU hW => ⟨rfl, trivial⟩⟩ rfl rfl hl.1 rfl (lv_room (Nat.le_of_ble_eq_true rfl)) dX0_bytes_25 ⟨Nat.le_of_ble_eq_true rfl, Nat.le_of_ble_eq_true rfl⟩) (fun r_3 er_3 => ?_)
        obtain rfl : r_3 = xEnc v (nI wd) (nI q) := er_3
        refine lv_i2l hx hb dX0_bytes_28 rfl ?_
        refine lv_bipush (v := 48) hx hb dX0_bytes_29 (by decide) ?_
        refine lv_bipush (v := 8) hx hb dX0_bytes_31 (by decide) ?_
        refine lv_iload hx hb dX0_bytes_33 (lv_at hl 0 rfl) ?_
        refine lv_imul hx hb dX0_bytes_35 ?_
        refine lv_isub hx hb dX0_bytes_36 ?_
        refine lv_lshl hx hb dX0_bytes_37 rfl ?_
        refine lv_lor hx hb dX0_bytes_38 ?_
        refine lv_topl (fun x_4 ex_4 => ?_)
        refine lv_lstore_n (lv' := [(3, .long x_4), (5, .int (nI q)), (2, .int (nI wd)), (0, .ref h0), (1, .int v)]) hx hb dX0_bytes_39 rfl hl (by decide) rfl (fun ls hl => ?_)
        refine lv_iinc (v := nI (q + 1)) (lv' := [(5, .int (nI (q + 1))), (3, .long x_4), (2, .int (nI wd)), (0, .ref h0), (1, .int v)]) hx hb dX0_bytes_40 hl (k := 1) rfl (nI_1 _) (by decide) rfl (fun ls hl => ?_)
        refine lv_goto (tgt := 14) hx hb dX0_bytes_43 (by decide) ?_
        exact ih (q + 1) x_4 ls (by omega) (by rw [ex_4, hacc]; rfl) (lv_sub hl [0, 1, 2, 3, 4] rfl)
  refine lv_iload_n hx hb dX0_bytes_0 rfl (lv_at hl 1 rfl) ?_
  refine vp_callSi (W.runS (As := [.int v]) (rest := []) ⟨hx, hb, hml, hown, hts⟩ (c_X0_widthOf l v) (va_cwS 1 hts gX0_bytes_X0_widthOf rfl rfl rfl (by decide +kernel) ⟨Nat.le_of_ble_eq_true rfl, Nat.le_of_ble_eq_true rfl⟩) ⟨fun _ _ _ _ q => q, fun U hU hW => ⟨rfl, trivial⟩⟩ rfl rfl hl.1 rfl (lv_room (Nat.le_of_ble_eq_true rfl)) dX0_bytes_1 ⟨Nat.le_of_ble_eq_true rfl, Nat.le_of_ble_eq_true rfl⟩) (fun r_5 er_5 => ?_)
  obtain rfl : r_5 = xWidth v := er_5
  rw [hwd]
  refine lv_istore_n (lv' := [(2, .int (nI wd)), (0, .ref h0), (1, .int v)]) hx hb dX0_bytes_4 rfl hl (by decide) rfl (fun ls hl => ?_)
  refine lv_iload_n hx hb dX0_bytes_5 rfl (lv_at hl 0 rfl) ?_
  refine lv_i2l hx hb dX0_bytes_6 rfl ?_
  refine lv_bipush (v := 56) hx hb dX0_bytes_7 (by decide) ?_
  refine lv_lshl hx hb dX0_bytes_9 rfl ?_
  refine lv_topl (fun x_6 ex_6 => ?_)
  refine lv_lstore_n (lv' := [(3, .long x_6), (2, .int (nI wd)), (0, .ref h0), (1, .int v)]) hx hb dX0_bytes_10 rfl hl (by decide) rfl (fun ls hl => ?_)
  refine lv_iconst (v := 0) hx hb dX0_bytes_11 (by decide) ?_
  refine lv_istore (lv' := [(5, .int 0), (3, .long x_6), (2, .int (nI wd)), (0, .ref h0), (1, .int v)]) hx hb dX0_bytes_12 hl (by decide) rfl (fun ls hl => ?_)
  exact loop wd 0 x_6 ls (by omega) (by rw [ex_6]; rfl) (lv_sub hl [0, 1, 2, 3, 4] rfl)
