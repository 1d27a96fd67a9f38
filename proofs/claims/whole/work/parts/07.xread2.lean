set_option maxHeartbeats 4000000 in
set_option maxRecDepth 100000 in
theorem c_X0_readText (l : Launch) (dC : Nat → ClassId) (dI : Nat → Nat → Nat) (h0 h1 h2 h3 : Nat) (cA : ClassId) (t0 t1 t2 t3 : Nat) (sz : Nat) (tx : Nat → Int32) (n : Nat) (ch pl : Nat → Int32) (k : Nat) (rl : Int32) (fp : Int32) (hn : n ≤ 1000) (hk0 : k = 0) : Met l yX0_readText wsX0_readText ({ frames := 2, cells := 0, slots := 0, locals := 46 }) (va_Pc [.ref h0] (fun U => xmut dC dI h0 h1 h2 h3 cA t0 t1 t2 t3 sz (tx, n, ch, pl, k, rl, fp) U)) (va_Qi (fun (r : Int32) (u : XS) => r = (xRt tx n n 0 ch pl k 0 fp).1 ∧ u = (tx, n, (xRt tx n n 0 ch pl k 0 fp).2.1, (xRt tx n n 0 ch pl k 0 fp).2.2.1, (xRt tx n n 0 ch pl k 0 fp).2.2.2.1, rl, (xRt tx n n 0 ch pl k 0 fp).2.2.2.2)) (xatt dC dI h0 h1 h2 h3 cA (va_A (xw h0 h1 h2 h3 cA (tx, n, ch, pl, k, rl, fp)) sz)) (va_A (xw h0 h1 h2 h3 cA (tx, n, ch, pl, k, rl, fp)) sz)) 0 0 (va_A (xw h0 h1 h2 h3 cA (tx, n, ch, pl, k, rl, fp)) sz) := by
  refine Met.ofW (cc := cX0_readText) (maxL := 5) (ret := (some .int)) (by decide) rfl ?_
  intro p e s m args below meth c s₁ B hml hv
  obtain ⟨rfl, hsz, hP, hK, hD0, hT⟩ := hv
  have hx := B.exec
  have hb := B.bytes
  have hr := B.returns
  have hts := atoms_spec (ws := wsX0_readText) B.pre
  have hown : s.vm.findClass RX0 = some m.cls := findClass_of_methodNamed B.named
  subst hsz
  have hD := hD0.self (sz := s.heap.size)
  generalize hAe : va_A (xw h0 h1 h2 h3 cA (tx, n, ch, pl, k, rl, fp)) s.heap.size = A at hD hT ⊢
  have hA : ∀ q : Nat, s.heap.size ≤ q → A q := fun q h => by rw [← hAe]; exact Or.inr h
  have hS : va_S A s.heap s.heap [] := va_S.rf
  have hP : va_P (dC, dI) vwCl [(h0, .inr (0, [.ref h1, .int (nI n), .ref h2, .ref h3, .int (nI k), .int rl, .int fp])), (h1, .inl (cA, 1000, .inl tx)), (h2, .inl (cA, 1000, .inl ch)), (h3, .inl (cA, 1000, .inl pl))] s.heap := hP
  have hD : va_D A [(h0, .inr (0, [.ref h1, .int (nI n), .ref h2, .ref h3, .int (nI k), .int rl, .int fp])), (h1, .inl (cA, 1000, .inl tx)), (h2, .inl (cA, 1000, .inl ch)), (h3, .inl (cA, 1000, .inl pl))] := hD
  have hIn : ∀ w ∈ wsX00, w ∈ wsX0_readText := by decide +kernel
  obtain ⟨hz0, ht0, hz1, ht1, hz2, ht2, hz3, ht3⟩ := id hT
  have hl := lv_entry ([.ref h0]) (n := 5) (Nat.le_of_ble_eq_true rfl)
  rw [lg_entry_eq]
  generalize (lg_sl ([.ref h0]) ++ List.replicate (5 - (lg_sl ([.ref h0])).length) Slot.unset).toArray = ls at hl ⊢
  have hl : lv_has ls 5 [(0, .ref h0)] := hl
  generalize hR : xRt tx n n 0 ch pl k 0 fp = RR
  have loop : ∀ (d fr nx : Nat) (ch2 pl2 : Nat → Int32) (k2 : Nat) (H : Heap) (locs : List Loc) (ls : Array Slot), fr + d = n → nx ≤ 1004 → k2 ≤ fr → xRt tx n d fr ch2 pl2 k2 nx fp = RR → va_P (dC, dI) vwCl [(h0, .inr (0, [.ref h1, .int (nI n), .ref h2, .ref h3, .int (nI k2), .int rl, .int fp])), (h1, .inl (cA, 1000, .inl tx)), (h2, .inl (cA, 1000, .inl ch2)), (h3, .inl (cA, 1000, .inl pl2))] H → va_D A [(h0, .inr (0, [.ref h1, .int (nI n), .ref h2, .ref h3, .int (nI k2), .int rl, .int fp])), (h1, .inl (cA, 1000, .inl tx)), (h2, .inl (cA, 1000, .inl ch2)), (h3, .inl (cA, 1000, .inl pl2))] → va_S A s.heap H locs → lv_has ls 5 [(2, .int (nI fr)), (1, .int (nI nx)), (0, .ref h0)] → W p l e (headSpec wsX0_readText ({ frames := 2, cells := 0, slots := 0, locals := 46 })).room s m ([.ref h0] : List Value).toArray below meth c H locs 0 0 (MQ below (va_Qi (fun (r : Int32) (u : XS) => r = RR.1 ∧ u = (tx, n, RR.2.1, RR.2.2.1, RR.2.2.2.1, rl, RR.2.2.2.2)) (xatt dC dI h0 h1 h2 h3 cA A) A) ([.ref h0] : List Value).toArray s 0 0 A) (F0 m 4 ls []) := by
    intro d
    induction d with
    | zero =>
      intro fr nx ch2 pl2 k2 H locs ls hfd hnx hk2 hRR hP hD hS hl
      refine lv_iload_n hx hb dX0_readText_4 rfl (lv_at hl 0 rfl) ?_
      refine lv_aload_n hx hb dX0_readText_5 rfl (lv_at hl 2 rfl) ?_
      refine va_get (D := (dC, dI)) (ci := 0) (v := .int (nI n)) (C := RX0) (T := TX0) (N := 7) hx hb hts hIn hown hK hP 0 rfl rfl 1 (by decide) (hts (.fieldLink RX0 19 RX0 "textLength" "I") (by decide +kernel)) (fun _ h9 => h9) rfl dX0_readText_6 ?_
      refine lv_icmp_ge (tgt := 84) hx hb dX0_readText_9 (by decide) (fun c_1 => ?_) (fun c_1 => ?_)
      · refine lv_iconst (v := 0) hx hb dX0_readText_84 (by decide) ?_
        have hP9 : va_P (dC, dI) vwCl (xw h0 h1 h2 h3 cA (tx, n, ch2, pl2, k2, rl, fp)) H := hP
        have hD9 : va_D A (xw h0 h1 h2 h3 cA (tx, n, ch2, pl2, k2, rl, fp)) := hD
        exact W.iret (v := 0) hx hb hr (fun t ht hW => ⟨⟨0, (tx, n, ch2, pl2, k2, rl, fp), rfl, (by rw [← hRR]; exact ⟨rfl, rfl⟩), by rw [ht]; exact hP9, va_K.moved hW.alike hK, hD9⟩, hS.F ht⟩) hS.2.2 dX0_readText_85
      · exact absurd (nI_le (by omega) (by omega)) c_1
    | succ d ih =>
      intro fr nx ch2 pl2 k2 H locs ls hfd hnx hk2 hRR hP hD hS hl
      refine lv_iload_n hx hb dX0_readText_4 rfl (lv_at hl 0 rfl) ?_
      refine lv_aload_n hx hb dX0_readText_5 rfl (lv_at hl 2 rfl) ?_
      refine va_get (D := (dC, dI)) (ci := 0) (v := .int (nI n)) (C := RX0) (T := TX0) (N := 7) hx hb hts hIn hown hK hP 0 rfl rfl 1 (by decide) (hts (.fieldLink RX0 19 RX0 "textLength" "I") (by decide +kernel)) (fun _ h9 => h9) rfl dX0_readText_6 ?_
      refine lv_icmp_ge (tgt := 84) hx hb dX0_readText_9 (by decide) (fun c_2 => ?_) (fun c_2 => ?_)
      · exact absurd c_2 (nI_ge (by omega) (by omega))
      · refine lv_iload_n hx hb dX0_readText_12 rfl (lv_at hl 0 rfl) ?_
        refine lv_iload_n hx hb dX0_readText_13 rfl (lv_at hl 1 rfl) ?_
        refine lv_icmp_ge (tgt := 20) hx hb dX0_readText_14 (by decide) (fun c_3 => ?_) (fun c_3 => ?_)
        · have hge : ¬ fr < nx := Nat.not_lt.mpr ((nI_leI (by omega) (by omega)).mp c_3)
          refine lv_aload_n hx hb dX0_readText_20 rfl (lv_at hl 2 rfl) ?_
          refine lv_iload_n hx hb dX0_readText_21 rfl (lv_at hl 0 rfl) ?_
          refine vp_callSi (W.runV (As := [.int (nI fr)]) (rest := []) ⟨hx, hb, hml, hown, hts⟩ (c_X0_decodedAt l dC dI h0 h1 h2 h3 cA t0 t1 t2 t3 tx n ch2 pl2 k2 rl fp fr (by omega) (by omega)) (cwV 1 hts gX0_readText_X0_decodedAt rfl rfl rfl (by decide +kernel) ⟨Nat.le_of_ble_eq_true rfl, Nat.le_of_ble_eq_true rfl⟩) ⟨xpre_blind, va_recv hK hP (ci := 0) (q0 := 0) rfl rfl, fun U hU hW => ⟨rfl, xpre_of hP hK hT hS hU hW⟩⟩ rfl rfl hl.1 rfl (lv_room (Nat.le_of_ble_eq_true rfl)) dX0_readText_22 ⟨Nat.le_of_ble_eq_true rfl, Nat.le_of_ble_eq_true rfl⟩) (fun r_4 er_4 => ?_)
          obtain rfl : r_4 = xDec tx n fr := er_4
          refine lv_istore_n (lv' := [(3, .int (xDec tx n fr)), (2, .int (nI fr)), (1, .int (nI nx)), (0, .ref h0)]) hx hb dX0_readText_25 rfl hl (by decide) rfl (fun ls hl => ?_)
          refine lv_iload_n hx hb dX0_readText_26 rfl (lv_at hl 0 rfl) ?_
          refine vp_callSi (W.runS (As := [.int (xDec tx n fr)]) (rest := []) ⟨hx, hb, hml, hown, hts⟩ (c_X0_faultOf l t0 t1 t2 t3 (xDec tx n fr)) (va_cwS 1 hts gX0_readText_X0_faultOf rfl rfl rfl (by decide +kernel) ⟨Nat.le_of_ble_eq_true rfl, Nat.le_of_ble_eq_true rfl⟩) ⟨xtab_blind, fun U hU hW => ⟨rfl, xtab_call hT hS hU hW (fun _ q => q.elim)⟩⟩ rfl rfl hl.1 rfl (lv_room (Nat.le_of_ble_eq_true rfl)) dX0_readText_27 ⟨Nat.le_of_ble_eq_true rfl, Nat.le_of_ble_eq_true rfl⟩) (fun r_5 er_5 => ?_)
          obtain rfl : r_5 = xFault (xDec tx n fr) := er_5
          refine lv_istore (lv' := [(4, .int (xFault (xDec tx n fr))), (3, .int (xDec tx n fr)), (2, .int (nI fr)), (1, .int (nI nx)), (0, .ref h0)]) hx hb dX0_readText_30 hl (by decide) rfl (fun ls hl => ?_)
          refine lv_iload hx hb dX0_readText_32 (lv_at hl 0 rfl) ?_
          refine lv_if_eq (tgt := 45) hx hb dX0_readText_34 (by decide) (fun c_6 => ?_) (fun c_6 => ?_)
          · refine lv_aload_n hx hb dX0_readText_45 rfl (lv_at hl 4 rfl) ?_
            refine lv_iload_n hx hb dX0_readText_46 rfl (lv_at hl 1 rfl) ?_
            refine lv_iload_n hx hb dX0_readText_47 rfl (lv_at hl 2 rfl) ?_
            refine vp_callSi (W.runV (As := [.int (xDec tx n fr), .int (nI fr)]) (rest := []) ⟨hx, hb, hml, hown, hts⟩ (c_X0_isLeftOut l dC dI h0 h1 h2 h3 cA t0 t1 t2 t3 tx n ch2 pl2 k2 rl fp (xDec tx n fr) fr (by omega)) (cwV 2 hts gX0_readText_X0_isLeftOut rfl rfl rfl (by decide +kernel) ⟨Nat.le_of_ble_eq_true rfl, Nat.le_of_ble_eq_true rfl⟩) ⟨xpre_blind, va_recv hK hP (ci := 0) (q0 := 0) rfl rfl, fun U hU hW => ⟨rfl, xpre_of hP hK hT hS hU hW⟩⟩ rfl rfl hl.1 rfl (lv_room (Nat.le_of_ble_eq_true rfl)) dX0_readText_48 ⟨Nat.le_of_ble_eq_true rfl, Nat.le_of_ble_eq_true rfl⟩) (fun r_7 er_7 => ?_)
            obtain rfl : r_7 = bI (xLeft tx (xDec tx n fr) fr) := er_7
            refine lv_if_ne (tgt := 71) hx hb dX0_readText_51 (by decide) (fun c_8 => ?_) (fun c_8 => ?_)
            · have c_8 := bI_n0 c_8
              refine lv_iload_n hx hb dX0_readText_71 rfl (lv_at hl 2 rfl) ?_
              refine lv_iload_n hx hb dX0_readText_72 rfl (lv_at hl 1 rfl) ?_
              refine vp_callSi (W.runS (As := [.int (xDec tx n fr)]) (rest := [.int (nI fr)]) ⟨hx, hb, hml, hown, hts⟩ (c_X0_widthOf l (xDec tx n fr)) (va_cwS 1 hts gX0_readText_X0_widthOf rfl rfl rfl (by decide +kernel) ⟨Nat.le_of_ble_eq_true rfl, Nat.le_of_ble_eq_true rfl⟩) ⟨fun _ _ _ _ q => q, fun U hU hW => ⟨rfl, trivial⟩⟩ rfl rfl hl.1 rfl (lv_room (Nat.le_of_ble_eq_true rfl)) dX0_readText_73 ⟨Nat.le_of_ble_eq_true rfl, Nat.le_of_ble_eq_true rfl⟩) (fun r_9 er_9 => ?_)
              obtain rfl : r_9 = xWidth (xDec tx n fr) := er_9
              obtain ⟨wd, hw4, hwd⟩ := xWidth_nat (xDec tx n fr)
              rw [hwd]
              refine lv_iadd hx hb dX0_readText_76 ?_
              refine lv_topi (fun x_10 ex_10 => ?_)
              obtain rfl : x_10 = nI (fr + wd) := ex_10.trans (nI_add _ _)
              refine lv_istore_n (lv' := [(1, .int (nI (fr + wd))), (4, .int (xFault (xDec tx n fr))), (3, .int (xDec tx n fr)), (2, .int (nI fr)), (0, .ref h0)]) hx hb dX0_readText_77 rfl hl (by decide) rfl (fun ls hl => ?_)
              refine lv_iinc (v := nI (fr + 1)) (lv' := [(2, .int (nI (fr + 1))), (1, .int (nI (fr + wd))), (4, .int (xFault (xDec tx n fr))), (3, .int (xDec tx n fr)), (0, .ref h0)]) hx hb dX0_readText_78 hl (k := 3) rfl (nI_1 _) (by decide) rfl (fun ls hl => ?_)
              refine lv_goto (tgt := 4) hx hb dX0_readText_81 (by decide) ?_
              exact ih (fr + 1) (fr + wd) ch2 pl2 k2 H locs ls (by omega) (by omega) (by omega) (by rw [← hRR, xRt, if_neg hge, if_pos c_6, if_pos c_8, hwd, nI_cl3 (fo := wd) (by omega)]) hP hD hS (lv_sub hl [0, 1, 4] rfl)
            · have c_8 := bI_0 c_8
              refine lv_aload_n hx hb dX0_readText_54 rfl (lv_at hl 4 rfl) ?_
              refine lv_iload_n hx hb dX0_readText_55 rfl (lv_at hl 1 rfl) ?_
              refine lv_bipush (v := 13) hx hb dX0_readText_56 (by decide) ?_
              refine lv_icmp_ne (tgt := 66) hx hb dX0_readText_58 (by decide) (fun c_11 => ?_) (fun c_11 => ?_)
              · refine lv_iload_n hx hb dX0_readText_66 rfl (lv_at hl 1 rfl) ?_
                refine lv_iload_n hx hb dX0_readText_67 rfl (lv_at hl 2 rfl) ?_
                have hFc := va_free (wc := xw h0 h1 h2 h3 cA (tx, n, ch2, pl2, k2, rl, fp)) hD hS hA [0, 1, 2, 3] rfl
                refine va_callv (va_runV (As := [.int (xDec tx n fr), .int (nI fr)]) (rest := []) ⟨hx, hb, hml, hown, hts⟩ (c_X0_keep l dC dI h0 h1 h2 h3 cA t0 t1 t2 t3 H.size tx n ch2 pl2 k2 rl fp (xDec tx n fr) fr (by omega)) (cwV 2 hts gX0_readText_X0_keep rfl rfl rfl (by decide +kernel) ⟨Nat.le_of_ble_eq_true rfl, Nat.le_of_ble_eq_true rfl⟩) ⟨xmut_blind, va_recv hK hP (ci := 0) (q0 := 0) rfl rfl, fun U hU hW => ⟨rfl, xmut_of hP hK hD hT hS hFc hU hW⟩⟩ rfl rfl hl.1 rfl (lv_room (Nat.le_of_ble_eq_true rfl)) dX0_readText_68 ⟨Nat.le_of_ble_eq_true rfl, Nat.le_of_ble_eq_true rfl⟩) hS (fun q _ h => hFc q h) hFc (fun u_12 t_12 H1 locs ht hvm hw hB hz1 hk1 hS => ?_)
                obtain rfl : u_12 = (tx, n, (upd ch2 k2 (xDec tx n fr)), (upd pl2 k2 (nI fr)), (k2 + 1), rl, fp) := hw
                obtain ⟨hP1, hK1, hD1⟩ := hB
                rw [ht] at hP1
                obtain ⟨hP, hD⟩ := va_join (wr := []) (w1 := xw h0 h1 h2 h3 cA (tx, n, (upd ch2 k2 (xDec tx n fr)), (upd pl2 k2 (nI fr)), (k2 + 1), rl, fp)) hP hD [0, 1, 2, 3] [] rfl rfl (by decide) (by decide) hk1 hFc hP1 hD1
                generalize H1 = H at hP hS ⊢
                have hP : va_P (dC, dI) vwCl [(h0, .inr (0, [.ref h1, .int (nI n), .ref h2, .ref h3, .int (nI (k2 + 1)), .int rl, .int fp])), (h1, .inl (cA, 1000, .inl tx)), (h2, .inl (cA, 1000, .inl (upd ch2 k2 (xDec tx n fr)))), (h3, .inl (cA, 1000, .inl (upd pl2 k2 (nI fr))))] H := hP
                have hD : va_D A [(h0, .inr (0, [.ref h1, .int (nI n), .ref h2, .ref h3, .int (nI (k2 + 1)), .int rl, .int fp])), (h1, .inl (cA, 1000, .inl tx)), (h2, .inl (cA, 1000, .inl (upd ch2 k2 (xDec tx n fr)))), (h3, .inl (cA, 1000, .inl (upd pl2 k2 (nI fr))))] := hD
                refine lv_iload_n hx hb dX0_readText_71 rfl (lv_at hl 2 rfl) ?_
                refine lv_iload_n hx hb dX0_readText_72 rfl (lv_at hl 1 rfl) ?_
                refine vp_callSi (W.runS (As := [.int (xDec tx n fr)]) (rest := [.int (nI fr)]) ⟨hx, hb, hml, hown, hts⟩ (c_X0_widthOf l (xDec tx n fr)) (va_cwS 1 hts gX0_readText_X0_widthOf rfl rfl rfl (by decide +kernel) ⟨Nat.le_of_ble_eq_true rfl, Nat.le_of_ble_eq_true rfl⟩) ⟨fun _ _ _ _ q => q, fun U hU hW => ⟨rfl, trivial⟩⟩ rfl rfl hl.1 rfl (lv_room (Nat.le_of_ble_eq_true rfl)) dX0_readText_73 ⟨Nat.le_of_ble_eq_true rfl, Nat.le_of_ble_eq_true rfl⟩) (fun r_13 er_13 => ?_)
                obtain rfl : r_13 = xWidth (xDec tx n fr) := er_13
                obtain ⟨wd, hw4, hwd⟩ := xWidth_nat (xDec tx n fr)
                rw [hwd]
                refine lv_iadd hx hb dX0_readText_76 ?_
                refine lv_topi (fun x_14 ex_14 => ?_)
                obtain rfl : x_14 = nI (fr + wd) := ex_14.trans (nI_add _ _)
                refine lv_istore_n (lv' := [(1, .int (nI (fr + wd))), (4, .int (xFault (xDec tx n fr))), (3, .int (xDec tx n fr)), (2, .int (nI fr)), (0, .ref h0)]) hx hb dX0_readText_77 rfl hl (by decide) rfl (fun ls hl => ?_)
                refine lv_iinc (v := nI (fr + 1)) (lv' := [(2, .int (nI (fr + 1))), (1, .int (nI (fr + wd))), (4, .int (xFault (xDec tx n fr))), (3, .int (xDec tx n fr)), (0, .ref h0)]) hx hb dX0_readText_78 hl (k := 3) rfl (nI_1 _) (by decide) rfl (fun ls hl => ?_)
                refine lv_goto (tgt := 4) hx hb dX0_readText_81 (by decide) ?_
                exact ih (fr + 1) (fr + wd) (upd ch2 k2 (xDec tx n fr)) (upd pl2 k2 (nI fr)) (k2 + 1) H locs ls (by omega) (by omega) (by omega) (by rw [← hRR, xRt, if_neg hge, if_pos c_6, if_neg c_8, if_neg c_11, hwd, nI_cl3 (fo := wd) (by omega)]) hP hD hS (lv_sub hl [0, 1, 4] rfl)
              · refine lv_bipush (v := 10) hx hb dX0_readText_61 (by decide) ?_
                refine lv_goto (tgt := 67) hx hb dX0_readText_63 (by decide) ?_
                refine lv_iload_n hx hb dX0_readText_67 rfl (lv_at hl 2 rfl) ?_
                have hFc := va_free (wc := xw h0 h1 h2 h3 cA (tx, n, ch2, pl2, k2, rl, fp)) hD hS hA [0, 1, 2, 3] rfl
                refine va_callv (va_runV (As := [.int 10, .int (nI fr)]) (rest := []) ⟨hx, hb, hml, hown, hts⟩ (c_X0_keep l dC dI h0 h1 h2 h3 cA t0 t1 t2 t3 H.size tx n ch2 pl2 k2 rl fp 10 fr (by omega)) (cwV 2 hts gX0_readText_X0_keep rfl rfl rfl (by decide +kernel) ⟨Nat.le_of_ble_eq_true rfl, Nat.le_of_ble_eq_true rfl⟩) ⟨xmut_blind, va_recv hK hP (ci := 0) (q0 := 0) rfl rfl, fun U hU hW => ⟨rfl, xmut_of hP hK hD hT hS hFc hU hW⟩⟩ rfl rfl hl.1 rfl (lv_room (Nat.le_of_ble_eq_true rfl)) dX0_readText_68 ⟨Nat.le_of_ble_eq_true rfl, Nat.le_of_ble_eq_true rfl⟩) hS (fun q _ h => hFc q h) hFc (fun u_15 t_15 H1 locs ht hvm hw hB hz1 hk1 hS => ?_)
                obtain rfl : u_15 = (tx, n, (upd ch2 k2 10), (upd pl2 k2 (nI fr)), (k2 + 1), rl, fp) := hw
                obtain ⟨hP1, hK1, hD1⟩ := hB
                rw [ht] at hP1
                obtain ⟨hP, hD⟩ := va_join (wr := []) (w1 := xw h0 h1 h2 h3 cA (tx, n, (upd ch2 k2 10), (upd pl2 k2 (nI fr)), (k2 + 1), rl, fp)) hP hD [0, 1, 2, 3] [] rfl rfl (by decide) (by decide) hk1 hFc hP1 hD1
                generalize H1 = H at hP hS ⊢
                have hP : va_P (dC, dI) vwCl [(h0, .inr (0, [.ref h1, .int (nI n), .ref h2, .ref h3, .int (nI (k2 + 1)), .int rl, .int fp])), (h1, .inl (cA, 1000, .inl tx)), (h2, .inl (cA, 1000, .inl (upd ch2 k2 10))), (h3, .inl (cA, 1000, .inl (upd pl2 k2 (nI fr))))] H := hP
                have hD : va_D A [(h0, .inr (0, [.ref h1, .int (nI n), .ref h2, .ref h3, .int (nI (k2 + 1)), .int rl, .int fp])), (h1, .inl (cA, 1000, .inl tx)), (h2, .inl (cA, 1000, .inl (upd ch2 k2 10))), (h3, .inl (cA, 1000, .inl (upd pl2 k2 (nI fr))))] := hD
                refine lv_iload_n hx hb dX0_readText_71 rfl (lv_at hl 2 rfl) ?_
                refine lv_iload_n hx hb dX0_readText_72 rfl (lv_at hl 1 rfl) ?_
                refine vp_callSi (W.runS (As := [.int (xDec tx n fr)]) (rest := [.int (nI fr)]) ⟨hx, hb, hml, hown, hts⟩ (c_X0_widthOf l (xDec tx n fr)) (va_cwS 1 hts gX0_readText_X0_widthOf rfl rfl rfl (by decide +kernel) ⟨Nat.le_of_ble_eq_true rfl, Nat.le_of_ble_eq_true rfl⟩) ⟨fun _ _ _ _ q => q, fun U hU hW => ⟨rfl, trivial⟩⟩ rfl rfl hl.1 rfl (lv_room (Nat.le_of_ble_eq_true rfl)) dX0_readText_73 ⟨Nat.le_of_ble_eq_true rfl, Nat.le_of_ble_eq_true rfl⟩) (fun r_16 er_16 => ?_)
                obtain rfl : r_16 = xWidth (xDec tx n fr) := er_16
                obtain ⟨wd, hw4, hwd⟩ := xWidth_nat (xDec tx n fr)
                rw [hwd]
                refine lv_iadd hx hb dX0_readText_76 ?_
                refine lv_topi (fun x_17 ex_17 => ?_)
                obtain rfl : x_17 = nI (fr + wd) := ex_17.trans (nI_add _ _)
                refine lv_istore_n (lv' := [(1, .int (nI (fr + wd))), (4, .int (xFault (xDec tx n fr))), (3, .int (xDec tx n fr)), (2, .int (nI fr)), (0, .ref h0)]) hx hb dX0_readText_77 rfl hl (by decide) rfl (fun ls hl => ?_)
                refine lv_iinc (v := nI (fr + 1)) (lv' := [(2, .int (nI (fr + 1))), (1, .int (nI (fr + wd))), (4, .int (xFault (xDec tx n fr))), (3, .int (xDec tx n fr)), (0, .ref h0)]) hx hb dX0_readText_78 hl (k := 3) rfl (nI_1 _) (by decide) rfl (fun ls hl => ?_)
                refine lv_goto (tgt := 4) hx hb dX0_readText_81 (by decide) ?_
                exact ih (fr + 1) (fr + wd) (upd ch2 k2 10) (upd pl2 k2 (nI fr)) (k2 + 1) H locs ls (by omega) (by omega) (by omega) (by rw [← hRR, xRt, if_neg hge, if_pos c_6, if_neg c_8, if_pos c_11, hwd, nI_cl3 (fo := wd) (by omega)]) hP hD hS (lv_sub hl [0, 1, 4] rfl)
          · refine lv_aload_n hx hb dX0_readText_37 rfl (lv_at hl 4 rfl) ?_
            refine lv_iload_n hx hb dX0_readText_38 rfl (lv_at hl 2 rfl) ?_
            refine va_put (D := (dC, dI)) (ci := 0) (v := .int (nI fr)) (ty := .int) (C := RX0) (T := TX0) (N := 7) hx hb hts hIn tyX0 tyX0_ok nmX0 hown hK hP hD hS 0 rfl rfl 6 (by decide) (hts (.fieldLink RX0 29 RX0 "faultPlace" "I") (by decide +kernel)) (fun _ h9 => h9) rfl (by decide +kernel) rfl rfl (Nat.le_of_ble_eq_true rfl) dX0_readText_39 (fun H locs hP hD hS => ?_)
            have hP : va_P (dC, dI) vwCl [(h0, .inr (0, [.ref h1, .int (nI n), .ref h2, .ref h3, .int (nI k2), .int rl, .int (nI fr)])), (h1, .inl (cA, 1000, .inl tx)), (h2, .inl (cA, 1000, .inl ch2)), (h3, .inl (cA, 1000, .inl pl2))] H := hP
            have hD : va_D A [(h0, .inr (0, [.ref h1, .int (nI n), .ref h2, .ref h3, .int (nI k2), .int rl, .int (nI fr)])), (h1, .inl (cA, 1000, .inl tx)), (h2, .inl (cA, 1000, .inl ch2)), (h3, .inl (cA, 1000, .inl pl2))] := hD
            refine lv_iload hx hb dX0_readText_42 (lv_at hl 0 rfl) ?_
            have hP9 : va_P (dC, dI) vwCl (xw h0 h1 h2 h3 cA (tx, n, ch2, pl2, k2, rl, (nI fr))) H := hP
            have hD9 : va_D A (xw h0 h1 h2 h3 cA (tx, n, ch2, pl2, k2, rl, (nI fr))) := hD
            exact W.iret (v := xFault (xDec tx n fr)) hx hb hr (fun t ht hW => ⟨⟨xFault (xDec tx n fr), (tx, n, ch2, pl2, k2, rl, (nI fr)), rfl, (by rw [← hRR, xRt, if_neg hge, if_neg c_6]; exact ⟨rfl, rfl⟩), by rw [ht]; exact hP9, va_K.moved hW.alike hK, hD9⟩, hS.F ht⟩) hS.2.2 dX0_readText_44
        · have hge : fr < nx := Nat.not_le.mp (fun z => c_3 ((nI_leI (by omega) (by omega)).mpr z))
          refine lv_goto (tgt := 78) hx hb dX0_readText_17 (by decide) ?_
          refine lv_iinc (v := nI (fr + 1)) (lv' := [(2, .int (nI (fr + 1))), (1, .int (nI nx)), (0, .ref h0)]) hx hb dX0_readText_78 hl (k := 0) rfl (nI_1 _) (by decide) rfl (fun ls hl => ?_)
          refine lv_goto (tgt := 4) hx hb dX0_readText_81 (by decide) ?_
          exact ih (fr + 1) nx ch2 pl2 k2 H locs ls (by omega) (by omega) (by omega) (by rw [← hRR, xRt, if_pos hge]) hP hD hS (lv_sub hl [0, 1, 2] rfl)
  refine lv_iconst (v := 0) hx hb dX0_readText_0 (by decide) ?_
  refine lv_istore_n (lv' := [(1, .int 0), (0, .ref h0)]) hx hb dX0_readText_1 rfl hl (by decide) rfl (fun ls hl => ?_)
  refine lv_iconst (v := 0) hx hb dX0_readText_2 (by decide) ?_
  refine lv_istore_n (lv' := [(2, .int 0), (1, .int 0), (0, .ref h0)]) hx hb dX0_readText_3 rfl hl (by decide) rfl (fun ls hl => ?_)
  exact loop n 0 0 ch pl k s.heap [] ls (by omega) (by omega) (by omega) hR hP hD hS (lv_sub hl [0, 1, 2] rfl)
set_option maxHeartbeats 4000000 in
set_option maxRecDepth 100000 in
theorem c_X0_read (l : Launch) (dC : Nat → ClassId) (dI : Nat → Nat → Nat) (h0 h1 h2 h3 : Nat) (cA : ClassId) (t0 t1 t2 t3 : Nat) (sz : Nat) (tx : Nat → Int32) (n : Nat) (ch pl : Nat → Int32) (k : Nat) (rl : Int32) (fp : Int32) (hn : n ≤ 1000) : Met l yX0_read wsX0_read ({ frames := 3, cells := 0, slots := 0, locals := 70 }) (va_Pc [.ref h0] (fun U => xmut dC dI h0 h1 h2 h3 cA t0 t1 t2 t3 sz (tx, n, ch, pl, k, rl, fp) U)) (va_Qi (fun (r : Int32) (u : XS) => r = xRead (xRt tx n n 0 ch pl 0 0 (-1)) ∧ u = xReadU tx n (xRt tx n n 0 ch pl 0 0 (-1))) (xatt dC dI h0 h1 h2 h3 cA (va_A (xw h0 h1 h2 h3 cA (tx, n, ch, pl, k, rl, fp)) sz)) (va_A (xw h0 h1 h2 h3 cA (tx, n, ch, pl, k, rl, fp)) sz)) 0 0 (va_A (xw h0 h1 h2 h3 cA (tx, n, ch, pl, k, rl, fp)) sz) := by
  refine Met.ofW (cc := cX0_read) (maxL := 2) (ret := (some .int)) (by decide) rfl ?_
  intro p e s m args below meth c s₁ B hml hv
  obtain ⟨rfl, hsz, hP, hK, hD0, hT⟩ := hv
  have hx := B.exec
  have hb := B.bytes
  have hr := B.returns
  have hts := atoms_spec (ws := wsX0_read) B.pre
  have hown : s.vm.findClass RX0 = some m.cls := findClass_of_methodNamed B.named
  subst hsz
  have hD := hD0.self (sz := s.heap.size)
  generalize hAe : va_A (xw h0 h1 h2 h3 cA (tx, n, ch, pl, k, rl, fp)) s.heap.size = A at hD hT ⊢
  have hA : ∀ q : Nat, s.heap.size ≤ q → A q := fun q h => by rw [← hAe]; exact Or.inr h
  have hS : va_S A s.heap s.heap [] := va_S.rf
  have hP : va_P (dC, dI) vwCl [(h0, .inr (0, [.ref h1, .int (nI n), .ref h2, .ref h3, .int (nI k), .int rl, .int fp])), (h1, .inl (cA, 1000, .inl tx)), (h2, .inl (cA, 1000, .inl ch)), (h3, .inl (cA, 1000, .inl pl))] s.heap := hP
  have hD : va_D A [(h0, .inr (0, [.ref h1, .int (nI n), .ref h2, .ref h3, .int (nI k), .int rl, .int fp])), (h1, .inl (cA, 1000, .inl tx)), (h2, .inl (cA, 1000, .inl ch)), (h3, .inl (cA, 1000, .inl pl))] := hD
  have hIn : ∀ w ∈ wsX00, w ∈ wsX0_read := by decide +kernel
  obtain ⟨hz0, ht0, hz1, ht1, hz2, ht2, hz3, ht3⟩ := id hT
  have hl := lv_entry ([.ref h0]) (n := 2) (Nat.le_of_ble_eq_true rfl)
  rw [lg_entry_eq]
  generalize (lg_sl ([.ref h0]) ++ List.replicate (2 - (lg_sl ([.ref h0])).length) Slot.unset).toArray = ls at hl ⊢
  have hl : lv_has ls 2 [(0, .ref h0)] := hl
  refine lv_aload_n hx hb dX0_read_0 rfl (lv_at hl 0 rfl) ?_
  have hFc := va_free (wc := xw h0 h1 h2 h3 cA (tx, n, ch, pl, k, rl, fp)) hD hS hA [0, 1, 2, 3] rfl
  refine va_callv (va_runV (As := []) (rest := []) ⟨hx, hb, hml, hown, hts⟩ (c_X0_forgetReading l dC dI h0 h1 h2 h3 cA t0 t1 t2 t3 s.heap.size tx n ch pl k rl fp) (cwV 0 hts gX0_read_X0_forgetReading rfl rfl rfl (by decide +kernel) ⟨Nat.le_of_ble_eq_true rfl, Nat.le_of_ble_eq_true rfl⟩) ⟨xmut_blind, va_recv hK hP (ci := 0) (q0 := 0) rfl rfl, fun U hU hW => ⟨rfl, xmut_of hP hK hD hT hS hFc hU hW⟩⟩ rfl rfl hl.1 rfl (lv_room (Nat.le_of_ble_eq_true rfl)) dX0_read_1 ⟨Nat.le_of_ble_eq_true rfl, Nat.le_of_ble_eq_true rfl⟩) hS (fun q _ h => hFc q h) hFc (fun u_1 t_1 H1 locs ht hvm hw hB hz1 hk1 hS => ?_)
  obtain rfl : u_1 = (tx, n, ch, pl, 0, (-1), (-1)) := hw
  obtain ⟨hP1, hK1, hD1⟩ := hB
  rw [ht] at hP1
  obtain ⟨hP, hD⟩ := va_join (wr := []) (w1 := xw h0 h1 h2 h3 cA (tx, n, ch, pl, 0, (-1), (-1))) hP hD [0, 1, 2, 3] [] rfl rfl (by decide) (by decide) hk1 hFc hP1 hD1
  generalize H1 = H at hP hS ⊢
  have hP : va_P (dC, dI) vwCl [(h0, .inr (0, [.ref h1, .int (nI n), .ref h2, .ref h3, .int (nI 0), .int (-1), .int (-1)])), (h1, .inl (cA, 1000, .inl tx)), (h2, .inl (cA, 1000, .inl ch)), (h3, .inl (cA, 1000, .inl pl))] H := hP
  have hD : va_D A [(h0, .inr (0, [.ref h1, .int (nI n), .ref h2, .ref h3, .int (nI 0), .int (-1), .int (-1)])), (h1, .inl (cA, 1000, .inl tx)), (h2, .inl (cA, 1000, .inl ch)), (h3, .inl (cA, 1000, .inl pl))] := hD
  refine lv_aload_n hx hb dX0_read_4 rfl (lv_at hl 0 rfl) ?_
  have hRk := xRt_k tx n n 0 ch pl 0 0 (-1)
  have hFc := va_free (wc := xw h0 h1 h2 h3 cA (tx, n, ch, pl, 0, (-1), (-1))) hD hS hA [0, 1, 2, 3] rfl
  refine va_calli (va_runV (As := []) (rest := []) ⟨hx, hb, hml, hown, hts⟩ (c_X0_readText l dC dI h0 h1 h2 h3 cA t0 t1 t2 t3 H.size tx n ch pl 0 (-1) (-1) hn rfl) (cwV 0 hts gX0_read_X0_readText rfl rfl rfl (by decide +kernel) ⟨Nat.le_of_ble_eq_true rfl, Nat.le_of_ble_eq_true rfl⟩) ⟨xmut_blind, va_recv hK hP (ci := 0) (q0 := 0) rfl rfl, fun U hU hW => ⟨rfl, xmut_of hP hK hD hT hS hFc hU hW⟩⟩ rfl rfl hl.1 rfl (lv_room (Nat.le_of_ble_eq_true rfl)) dX0_read_5 ⟨Nat.le_of_ble_eq_true rfl, Nat.le_of_ble_eq_true rfl⟩) hS (fun q _ h => hFc q h) hFc (fun r_2 u_2 t_2 H1 locs ht hvm hw hB hz1 hk1 hS => ?_)
  generalize hR : xRt tx n n 0 ch pl 0 0 (-1) = RR at hw hRk
  obtain ⟨hw0, hw1⟩ := hw
  obtain rfl : r_2 = RR.1 := hw0
  obtain rfl : u_2 = (tx, n, RR.2.1, RR.2.2.1, RR.2.2.2.1, (-1), RR.2.2.2.2) := hw1
  obtain ⟨hP1, hK1, hD1⟩ := hB
  rw [ht] at hP1
  obtain ⟨hP, hD⟩ := va_join (wr := []) (w1 := xw h0 h1 h2 h3 cA (tx, n, RR.2.1, RR.2.2.1, RR.2.2.2.1, (-1), RR.2.2.2.2)) hP hD [0, 1, 2, 3] [] rfl rfl (by decide) (by decide) hk1 hFc hP1 hD1
  generalize H1 = H at hP hS ⊢
  have hP : va_P (dC, dI) vwCl [(h0, .inr (0, [.ref h1, .int (nI n), .ref h2, .ref h3, .int (nI RR.2.2.2.1), .int (-1), .int RR.2.2.2.2])), (h1, .inl (cA, 1000, .inl tx)), (h2, .inl (cA, 1000, .inl RR.2.1)), (h3, .inl (cA, 1000, .inl RR.2.2.1))] H := hP
  have hD : va_D A [(h0, .inr (0, [.ref h1, .int (nI n), .ref h2, .ref h3, .int (nI RR.2.2.2.1), .int (-1), .int RR.2.2.2.2])), (h1, .inl (cA, 1000, .inl tx)), (h2, .inl (cA, 1000, .inl RR.2.1)), (h3, .inl (cA, 1000, .inl RR.2.2.1))] := hD
  refine lv_istore_n (lv' := [(1, .int RR.1), (0, .ref h0)]) hx hb dX0_read_8 rfl hl (by decide) rfl (fun ls hl => ?_)
  refine lv_iload_n hx hb dX0_read_9 rfl (lv_at hl 0 rfl) ?_
  refine lv_if_ne (tgt := 24) hx hb dX0_read_10 (by decide) (fun c_3 => ?_) (fun c_3 => ?_)
  · refine lv_aload_n hx hb dX0_read_24 rfl (lv_at hl 1 rfl) ?_
    refine lv_iconst (v := 0) hx hb dX0_read_25 (by decide) ?_
    refine va_put (D := (dC, dI)) (ci := 0) (v := .int 0) (ty := .int) (C := RX0) (T := TX0) (N := 7) hx hb hts hIn tyX0 tyX0_ok nmX0 hown hK hP hD hS 0 rfl rfl 4 (by decide) (hts (.fieldLink RX0 23 RX0 "count" "I") (by decide +kernel)) (fun _ h9 => h9) rfl (by decide +kernel) rfl rfl (Nat.le_of_ble_eq_true rfl) dX0_read_26 (fun H locs hP hD hS => ?_)
    have hP : va_P (dC, dI) vwCl [(h0, .inr (0, [.ref h1, .int (nI n), .ref h2, .ref h3, .int 0, .int (-1), .int RR.2.2.2.2])), (h1, .inl (cA, 1000, .inl tx)), (h2, .inl (cA, 1000, .inl RR.2.1)), (h3, .inl (cA, 1000, .inl RR.2.2.1))] H := hP
    have hD : va_D A [(h0, .inr (0, [.ref h1, .int (nI n), .ref h2, .ref h3, .int 0, .int (-1), .int RR.2.2.2.2])), (h1, .inl (cA, 1000, .inl tx)), (h2, .inl (cA, 1000, .inl RR.2.1)), (h3, .inl (cA, 1000, .inl RR.2.2.1))] := hD
    refine lv_aload_n hx hb dX0_read_29 rfl (lv_at hl 1 rfl) ?_
    refine lv_iconst (v := 0) hx hb dX0_read_30 (by decide) ?_
    refine va_put (D := (dC, dI)) (ci := 0) (v := .int 0) (ty := .int) (C := RX0) (T := TX0) (N := 7) hx hb hts hIn tyX0 tyX0_ok nmX0 hown hK hP hD hS 0 rfl rfl 1 (by decide) (hts (.fieldLink RX0 19 RX0 "textLength" "I") (by decide +kernel)) (fun _ h9 => h9) rfl (by decide +kernel) rfl rfl (Nat.le_of_ble_eq_true rfl) dX0_read_31 (fun H locs hP hD hS => ?_)
    have hP : va_P (dC, dI) vwCl [(h0, .inr (0, [.ref h1, .int 0, .ref h2, .ref h3, .int 0, .int (-1), .int RR.2.2.2.2])), (h1, .inl (cA, 1000, .inl tx)), (h2, .inl (cA, 1000, .inl RR.2.1)), (h3, .inl (cA, 1000, .inl RR.2.2.1))] H := hP
    have hD : va_D A [(h0, .inr (0, [.ref h1, .int 0, .ref h2, .ref h3, .int 0, .int (-1), .int RR.2.2.2.2])), (h1, .inl (cA, 1000, .inl tx)), (h2, .inl (cA, 1000, .inl RR.2.1)), (h3, .inl (cA, 1000, .inl RR.2.2.1))] := hD
    refine lv_iload_n hx hb dX0_read_34 rfl (lv_at hl 0 rfl) ?_
    refine lv_if_ne (tgt := 45) hx hb dX0_read_35 (by decide) (fun c_4 => ?_) (fun c_4 => ?_)
    · refine lv_iconst (v := -1) hx hb dX0_read_45 (by decide) ?_
      refine lv_iload_n hx hb dX0_read_46 rfl (lv_at hl 0 rfl) ?_
      refine lv_isub hx hb dX0_read_47 ?_
      have hP9 : va_P (dC, dI) vwCl (xw h0 h1 h2 h3 cA (tx, 0, RR.2.1, RR.2.2.1, 0, (-1), RR.2.2.2.2)) H := hP
      have hD9 : va_D A (xw h0 h1 h2 h3 cA (tx, 0, RR.2.1, RR.2.2.1, 0, (-1), RR.2.2.2.2)) := hD
      exact W.iret (v := (-1) - RR.1) hx hb hr (fun t ht hW => ⟨⟨(-1) - RR.1, (tx, 0, RR.2.1, RR.2.2.1, 0, (-1), RR.2.2.2.2), rfl, (by refine ⟨?_, ?_⟩ <;> simp only [xRead, xReadU, if_neg c_3, if_neg c_4]), by rw [ht]; exact hP9, va_K.moved hW.alike hK, hD9⟩, hS.F ht⟩) hS.2.2 dX0_read_48
    · exact absurd c_4 c_3
  · refine lv_aload_n hx hb dX0_read_13 rfl (lv_at hl 1 rfl) ?_
    refine lv_aload_n hx hb dX0_read_14 rfl (lv_at hl 1 rfl) ?_
    refine va_get (D := (dC, dI)) (ci := 0) (v := .int (nI n)) (C := RX0) (T := TX0) (N := 7) hx hb hts hIn hown hK hP 0 rfl rfl 1 (by decide) (hts (.fieldLink RX0 19 RX0 "textLength" "I") (by decide +kernel)) (fun _ h9 => h9) rfl dX0_read_15 ?_
    refine va_put (D := (dC, dI)) (ci := 0) (v := .int (nI n)) (ty := .int) (C := RX0) (T := TX0) (N := 7) hx hb hts hIn tyX0 tyX0_ok nmX0 hown hK hP hD hS 0 rfl rfl 5 (by decide) (hts (.fieldLink RX0 26 RX0 "readLength" "I") (by decide +kernel)) (fun _ h9 => h9) rfl (by decide +kernel) rfl rfl (Nat.le_of_ble_eq_true rfl) dX0_read_18 (fun H locs hP hD hS => ?_)
    have hP : va_P (dC, dI) vwCl [(h0, .inr (0, [.ref h1, .int (nI n), .ref h2, .ref h3, .int (nI RR.2.2.2.1), .int (nI n), .int RR.2.2.2.2])), (h1, .inl (cA, 1000, .inl tx)), (h2, .inl (cA, 1000, .inl RR.2.1)), (h3, .inl (cA, 1000, .inl RR.2.2.1))] H := hP
    have hD : va_D A [(h0, .inr (0, [.ref h1, .int (nI n), .ref h2, .ref h3, .int (nI RR.2.2.2.1), .int (nI n), .int RR.2.2.2.2])), (h1, .inl (cA, 1000, .inl tx)), (h2, .inl (cA, 1000, .inl RR.2.1)), (h3, .inl (cA, 1000, .inl RR.2.2.1))] := hD
    refine lv_goto (tgt := 29) hx hb dX0_read_21 (by decide) ?_
    refine lv_aload_n hx hb dX0_read_29 rfl (lv_at hl 1 rfl) ?_
    refine lv_iconst (v := 0) hx hb dX0_read_30 (by decide) ?_
    refine va_put (D := (dC, dI)) (ci := 0) (v := .int 0) (ty := .int) (C := RX0) (T := TX0) (N := 7) hx hb hts hIn tyX0 tyX0_ok nmX0 hown hK hP hD hS 0 rfl rfl 1 (by decide) (hts (.fieldLink RX0 19 RX0 "textLength" "I") (by decide +kernel)) (fun _ h9 => h9) rfl (by decide +kernel) rfl rfl (Nat.le_of_ble_eq_true rfl) dX0_read_31 (fun H locs hP hD hS => ?_)
    have hP : va_P (dC, dI) vwCl [(h0, .inr (0, [.ref h1, .int 0, .ref h2, .ref h3, .int (nI RR.2.2.2.1), .int (nI n), .int RR.2.2.2.2])), (h1, .inl (cA, 1000, .inl tx)), (h2, .inl (cA, 1000, .inl RR.2.1)), (h3, .inl (cA, 1000, .inl RR.2.2.1))] H := hP
    have hD : va_D A [(h0, .inr (0, [.ref h1, .int 0, .ref h2, .ref h3, .int (nI RR.2.2.2.1), .int (nI n), .int RR.2.2.2.2])), (h1, .inl (cA, 1000, .inl tx)), (h2, .inl (cA, 1000, .inl RR.2.1)), (h3, .inl (cA, 1000, .inl RR.2.2.1))] := hD
    refine lv_iload_n hx hb dX0_read_34 rfl (lv_at hl 0 rfl) ?_
    refine lv_if_ne (tgt := 45) hx hb dX0_read_35 (by decide) (fun c_5 => ?_) (fun c_5 => ?_)
    · exact absurd c_3 c_5
    · refine lv_aload_n hx hb dX0_read_38 rfl (lv_at hl 1 rfl) ?_
      refine va_get (D := (dC, dI)) (ci := 0) (v := .int (nI RR.2.2.2.1)) (C := RX0) (T := TX0) (N := 7) hx hb hts hIn hown hK hP 0 rfl rfl 4 (by decide) (hts (.fieldLink RX0 23 RX0 "count" "I") (by decide +kernel)) (fun _ h9 => h9) rfl dX0_read_39 ?_
      refine lv_goto (tgt := 48) hx hb dX0_read_42 (by decide) ?_
      have hP9 : va_P (dC, dI) vwCl (xw h0 h1 h2 h3 cA (tx, 0, RR.2.1, RR.2.2.1, RR.2.2.2.1, (nI n), RR.2.2.2.2)) H := hP
      have hD9 : va_D A (xw h0 h1 h2 h3 cA (tx, 0, RR.2.1, RR.2.2.1, RR.2.2.2.1, (nI n), RR.2.2.2.2)) := hD
      exact W.iret (v := nI RR.2.2.2.1) hx hb hr (fun t ht hW => ⟨⟨nI RR.2.2.2.1, (tx, 0, RR.2.1, RR.2.2.1, RR.2.2.2.1, (nI n), RR.2.2.2.2), rfl, (by refine ⟨?_, ?_⟩ <;> simp only [xRead, xReadU, if_pos c_3, if_pos c_5]), by rw [ht]; exact hP9, va_K.moved hW.alike hK, hD9⟩, hS.F ht⟩) hS.2.2 dX0_read_48
