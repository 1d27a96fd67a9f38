set_option maxHeartbeats 4000000 in
set_option maxRecDepth 100000 in
theorem c_X1_byteOf (l : Launch) (v j : Nat) (hv : v < 1114112) (hj : j < szN v) : Met l yX1_byteOf wsX1_byteOf ({ frames := 1, cells := 0, slots := 0, locals := 21 }) (va_Pc [.int (nI v), .int (nI j)] (fun U => True)) (vp_Si (fun r => r = nI (encN v j))) 0 0 (fun _ => False) := by
  refine Met.ofW (cc := cX1_byteOf) (maxL := 5) (ret := (some .int)) (by decide) rfl ?_
  intro p e s m args below meth c s₁ B hml hv
  obtain ⟨rfl, -⟩ := hv
  have hx := B.exec
  have hb := B.bytes
  have hr := B.returns
  have hts := atoms_spec (ws := wsX1_byteOf) B.pre
  have hown : s.vm.findClass RX1 = some m.cls := findClass_of_methodNamed B.named
  have hS : va_S (fun _ => False) s.heap s.heap [] := va_S.rf
  have hl := lv_entry ([.int (nI v), .int (nI j)]) (n := 5) (Nat.le_of_ble_eq_true rfl)
  rw [lg_entry_eq]
  generalize (lg_sl ([.int (nI v), .int (nI j)]) ++ List.replicate (5 - (lg_sl ([.int (nI v), .int (nI j)])).length) Slot.unset).toArray = ls at hl ⊢
  have hl : lv_has ls 5 [(0, .int (nI v)), (1, .int (nI j))] := hl
  have hsz := szN_in v
  have loop : ∀ (d L : Nat) (ls : Array Slot), j + d < 10 → L < 1114112 → L / 64 ^ d = v / 64 ^ (szN v - 1 - j) → lv_has ls 5 [(4, .int (nI (j + d))), (3, .int (nI L)), (2, .int (nI (szN v))), (0, .int (nI v)), (1, .int (nI j))] → W p l e (headSpec wsX1_byteOf ({ frames := 1, cells := 0, slots := 0, locals := 21 })).room s m ([.int (nI v), .int (nI j)] : List Value).toArray below meth c s.heap [] 0 0 (MQ below (vp_Si (fun r => r = nI (encN v j))) ([.int (nI v), .int (nI j)] : List Value).toArray s 0 0 (fun _ => False)) (F0 m 12 ls []) := by
    intro d
    induction d with
    | zero =>
      intro L ls hd hL hq hl
      have hq' : v / 64 ^ (szN v - 1 - j) = L := by rw [← hq]; simp
      refine lv_iload hx hb dX1_byteOf_12 (lv_at hl 0 rfl) ?_
      refine lv_iload_n hx hb dX1_byteOf_14 rfl (lv_at hl 4 rfl) ?_
      refine lv_icmp_le (tgt := 29) hx hb dX1_byteOf_15 (by decide) (fun c_1 => ?_) (fun c_1 => ?_)
      · have c_1 : j + 0 ≤ j := (nI_leI (a := j + 0) (b := j) (by omega) (by omega)).mp c_1
        refine lv_iload_n hx hb dX1_byteOf_29 rfl (lv_at hl 4 rfl) ?_
        refine lv_if_le (tgt := 42) hx hb dX1_byteOf_30 (by decide) (fun c_2 => ?_) (fun c_2 => ?_)
        · have c_2 : j ≤ 0 := (nI_leI (a := j) (b := 0) (by omega) (by omega)).mp c_2
          refine lv_iload_n hx hb dX1_byteOf_42 rfl (lv_at hl 2 rfl) ?_
          refine lv_iconst (v := 1) hx hb dX1_byteOf_43 (by decide) ?_
          refine lv_icmp_ne (tgt := 51) hx hb dX1_byteOf_44 (by decide) (fun c_3 => ?_) (fun c_3 => ?_)
          · have c_3 : ¬ szN v = 1 := fun zz => c_3 ((nI_eq (a := szN v) (b := 1) (by omega) (by omega)).mpr zz)
            refine lv_iload_n hx hb dX1_byteOf_51 rfl (lv_at hl 2 rfl) ?_
            refine lv_iconst (v := 2) hx hb dX1_byteOf_52 (by decide) ?_
            refine lv_icmp_ne (tgt := 64) hx hb dX1_byteOf_53 (by decide) (fun c_4 => ?_) (fun c_4 => ?_)
            · have c_4 : ¬ szN v = 2 := fun zz => c_4 ((nI_eq (a := szN v) (b := 2) (by omega) (by omega)).mpr zz)
              refine lv_iload_n hx hb dX1_byteOf_64 rfl (lv_at hl 2 rfl) ?_
              refine lv_iconst (v := 3) hx hb dX1_byteOf_65 (by decide) ?_
              refine lv_icmp_ne (tgt := 77) hx hb dX1_byteOf_66 (by decide) (fun c_5 => ?_) (fun c_5 => ?_)
              · have c_5 : ¬ szN v = 3 := fun zz => c_5 ((nI_eq (a := szN v) (b := 3) (by omega) (by omega)).mpr zz)
                refine lv_sipush (v := 240) hx hb dX1_byteOf_77 (by decide) ?_
                refine lv_iload_n hx hb dX1_byteOf_80 rfl (lv_at hl 1 rfl) ?_
                refine lv_iadd hx hb dX1_byteOf_81 ?_
                refine lv_topi (fun x_6 ex_6 => ?_)
                obtain rfl : x_6 = nI (240 + L) := ex_6.trans (nI_add 240 L)
                exact W.iret (v := nI (240 + L)) hx hb hr (fun t ht hW => ⟨nI (240 + L), rfl, (by simp only [encN, hq', if_pos c_2, if_neg c_3, if_neg c_4, if_neg c_5]), ht⟩) hS.2.2 dX1_byteOf_82
              · have c_5 : szN v = 3 := (nI_eq (a := szN v) (b := 3) (by omega) (by omega)).mp c_5
                refine lv_sipush (v := 224) hx hb dX1_byteOf_69 (by decide) ?_
                refine lv_iload_n hx hb dX1_byteOf_72 rfl (lv_at hl 1 rfl) ?_
                refine lv_iadd hx hb dX1_byteOf_73 ?_
                refine lv_topi (fun x_7 ex_7 => ?_)
                obtain rfl : x_7 = nI (224 + L) := ex_7.trans (nI_add 224 L)
                refine lv_goto (tgt := 82) hx hb dX1_byteOf_74 (by decide) ?_
                exact W.iret (v := nI (224 + L)) hx hb hr (fun t ht hW => ⟨nI (224 + L), rfl, (by simp only [encN, hq', if_pos c_2, if_neg c_3, if_neg c_4, if_pos c_5]), ht⟩) hS.2.2 dX1_byteOf_82
            · have c_4 : szN v = 2 := (nI_eq (a := szN v) (b := 2) (by omega) (by omega)).mp c_4
              refine lv_sipush (v := 192) hx hb dX1_byteOf_56 (by decide) ?_
              refine lv_iload_n hx hb dX1_byteOf_59 rfl (lv_at hl 1 rfl) ?_
              refine lv_iadd hx hb dX1_byteOf_60 ?_
              refine lv_topi (fun x_8 ex_8 => ?_)
              obtain rfl : x_8 = nI (192 + L) := ex_8.trans (nI_add 192 L)
              refine lv_goto (tgt := 82) hx hb dX1_byteOf_61 (by decide) ?_
              exact W.iret (v := nI (192 + L)) hx hb hr (fun t ht hW => ⟨nI (192 + L), rfl, (by simp only [encN, hq', if_pos c_2, if_neg c_3, if_pos c_4]), ht⟩) hS.2.2 dX1_byteOf_82
          · have c_3 : szN v = 1 := (nI_eq (a := szN v) (b := 1) (by omega) (by omega)).mp c_3
            refine lv_iload_n hx hb dX1_byteOf_47 rfl (lv_at hl 3 rfl) ?_
            refine lv_goto (tgt := 82) hx hb dX1_byteOf_48 (by decide) ?_
            exact W.iret (v := nI v) hx hb hr (fun t ht hW => ⟨nI v, rfl, (by simp only [encN, hq', if_pos c_2, if_pos c_3]), ht⟩) hS.2.2 dX1_byteOf_82
        · have c_2 : ¬ j ≤ 0 := fun zz => c_2 ((nI_leI (a := j) (b := 0) (by omega) (by omega)).mpr zz)
          refine lv_sipush (v := 128) hx hb dX1_byteOf_33 (by decide) ?_
          refine lv_iload_n hx hb dX1_byteOf_36 rfl (lv_at hl 1 rfl) ?_
          refine lv_bipush (v := 64) hx hb dX1_byteOf_37 (by decide) ?_
          refine lv_irem hx hb dX1_byteOf_39 (by decide) ?_
          refine lv_topi (fun x_9 ex_9 => ?_)
          obtain rfl : x_9 = nI (L % 64) := ex_9.trans (pk_rem (a := L) (d := 64) (by omega) (by omega) (by omega))
          refine lv_iadd hx hb dX1_byteOf_40 ?_
          refine lv_topi (fun x_10 ex_10 => ?_)
          obtain rfl : x_10 = nI (128 + (L % 64)) := ex_10.trans (nI_add 128 (L % 64))
          exact W.iret (v := nI (128 + (L % 64))) hx hb hr (fun t ht hW => ⟨nI (128 + (L % 64)), rfl, (by simp only [encN, hq', if_neg c_2]), ht⟩) hS.2.2 dX1_byteOf_41
      · exact absurd (nI_le (by omega) (by omega)) c_1
    | succ d ih =>
      intro L ls hd hL hq hl
      refine lv_iload hx hb dX1_byteOf_12 (lv_at hl 0 rfl) ?_
      refine lv_iload_n hx hb dX1_byteOf_14 rfl (lv_at hl 4 rfl) ?_
      refine lv_icmp_le (tgt := 29) hx hb dX1_byteOf_15 (by decide) (fun c_11 => ?_) (fun c_11 => ?_)
      · exact absurd c_11 (nI_ge (by omega) (by omega))
      · have c_11 : ¬ j + (d + 1) ≤ j := fun zz => c_11 ((nI_leI (a := j + (d + 1)) (b := j) (by omega) (by omega)).mpr zz)
        refine lv_iload_n hx hb dX1_byteOf_18 rfl (lv_at hl 1 rfl) ?_
        refine lv_bipush (v := 64) hx hb dX1_byteOf_19 (by decide) ?_
        refine lv_idiv hx hb dX1_byteOf_21 (by decide) ?_
        refine lv_topi (fun x_12 ex_12 => ?_)
        obtain rfl : x_12 = nI (L / 64) := ex_12.trans (pk_div (a := L) (d := 64) (by omega) (by omega) (by omega))
        refine lv_istore_n (lv' := [(3, .int (nI (L / 64))), (4, .int (nI (j + (d + 1)))), (2, .int (nI (szN v))), (0, .int (nI v)), (1, .int (nI j))]) hx hb dX1_byteOf_22 rfl hl (by decide) rfl (fun ls hl => ?_)
        refine lv_iinc (v := nI (j + d)) (lv' := [(4, .int (nI (j + d))), (3, .int (nI (L / 64))), (2, .int (nI (szN v))), (0, .int (nI v)), (1, .int (nI j))]) hx hb dX1_byteOf_23 hl (k := 1) rfl (pk_m1 _) (by decide) rfl (fun ls hl => ?_)
        refine lv_goto (tgt := 12) hx hb dX1_byteOf_26 (by decide) ?_
        exact ih (L / 64) ls (by omega) (by omega) (by rw [← hq, Nat.div_div_eq_div_mul, Nat.pow_succ, Nat.mul_comm]) (lv_sub hl [0, 1, 2, 3, 4] rfl)
  refine lv_iload_n hx hb dX1_byteOf_0 rfl (lv_at hl 0 rfl) ?_
  refine vp_callSi (W.runS (As := [.int (nI v)]) (rest := []) ⟨hx, hb, hml, hown, hts⟩ (c_X1_sizeOf l (nI v)) (va_cwS 1 hts gX1_byteOf_X1_sizeOf rfl rfl rfl (by decide +kernel) ⟨Nat.le_of_ble_eq_true rfl, Nat.le_of_ble_eq_true rfl⟩) ⟨fun _ _ _ _ q => q, fun U hU hW => ⟨rfl, trivial⟩⟩ rfl rfl hl.1 rfl (lv_room (Nat.le_of_ble_eq_true rfl)) dX1_byteOf_1 ⟨Nat.le_of_ble_eq_true rfl, Nat.le_of_ble_eq_true rfl⟩) (fun r_13 er_13 => ?_)
  obtain rfl : r_13 = mSize (nI v) := er_13
  rw [mSize_nI (by omega)]
  refine lv_istore_n (lv' := [(2, .int (nI (szN v))), (0, .int (nI v)), (1, .int (nI j))]) hx hb dX1_byteOf_4 rfl hl (by decide) rfl (fun ls hl => ?_)
  refine lv_iload_n hx hb dX1_byteOf_5 rfl (lv_at hl 1 rfl) ?_
  refine lv_istore_n (lv' := [(3, .int (nI v)), (2, .int (nI (szN v))), (0, .int (nI v)), (1, .int (nI j))]) hx hb dX1_byteOf_6 rfl hl (by decide) rfl (fun ls hl => ?_)
  refine lv_iload_n hx hb dX1_byteOf_7 rfl (lv_at hl 1 rfl) ?_
  refine lv_iconst (v := 1) hx hb dX1_byteOf_8 (by decide) ?_
  refine lv_isub hx hb dX1_byteOf_9 ?_
  refine lv_topi (fun x_14 ex_14 => ?_)
  obtain rfl : x_14 = nI (szN v - 1) := ex_14.trans (pk_sub (a := szN v) (b := 1) (by omega))
  refine lv_istore (lv' := [(4, .int (nI (szN v - 1))), (3, .int (nI v)), (2, .int (nI (szN v))), (0, .int (nI v)), (1, .int (nI j))]) hx hb dX1_byteOf_10 hl (by decide) rfl (fun ls hl => ?_)
  exact loop (szN v - 1 - j) v ls (by omega) hv rfl (by rw [show j + (szN v - 1 - j) = szN v - 1 by omega]; exact lv_sub hl [0, 1, 2, 3, 4] rfl)
set_option maxHeartbeats 4000000 in
set_option maxRecDepth 100000 in
theorem c_X1_put_no (l : Launch) (dC : Nat → ClassId) (dI : Nat → Nat → Nat) (g0 g1 g2 : Nat) (cA : ClassId) (sz : Nat) (tb : Nat → Nat) (n : Nat) (kb : Nat → Nat) (ln : Nat) (rd : Bool) (fp : Int32) (st : Nat) (mt bg : Int32) (v : Int64) (q : Int32) (hno : mPutOk n q = false) : Met l yX1_put wsX1_put ({ frames := 0, cells := 0, slots := 0, locals := 0 }) (va_Pc [.ref g0, .long v, .int q] (fun U => mmut dC dI g0 g1 g2 cA sz (tb, n, kb, ln, rd, fp, st, mt, bg) U)) (va_Qi (fun (r : Int32) (u : MS) => r = 0 ∧ u = (tb, n, kb, ln, rd, fp, st, mt, bg)) (matt dC dI g0 g1 g2 cA (va_A (mw g0 g1 g2 cA (tb, n, kb, ln, rd, fp, st, mt, bg)) sz)) (va_A (mw g0 g1 g2 cA (tb, n, kb, ln, rd, fp, st, mt, bg)) sz)) 0 0 (va_A (mw g0 g1 g2 cA (tb, n, kb, ln, rd, fp, st, mt, bg)) sz) := by
  refine Met.ofW (cc := cX1_put) (maxL := 5) (ret := (some .boolean)) (by decide) rfl ?_
  intro p e s m args below meth c s₁ B hml hv
  obtain ⟨rfl, hsz, hP, hK, hD0⟩ := hv
  have hx := B.exec
  have hb := B.bytes
  have hr := B.returns
  have hts := atoms_spec (ws := wsX1_put) B.pre
  have hown : s.vm.findClass RX1 = some m.cls := findClass_of_methodNamed B.named
  subst hsz
  have hD := hD0.self (sz := s.heap.size)
  generalize hAe : va_A (mw g0 g1 g2 cA (tb, n, kb, ln, rd, fp, st, mt, bg)) s.heap.size = A at hD ⊢
  have hA : ∀ q : Nat, s.heap.size ≤ q → A q := fun q h => by rw [← hAe]; exact Or.inr h
  have hS : va_S A s.heap s.heap [] := va_S.rf
  have hP : va_P (dC, dI) vwCl [(g0, .inr (1, [.ref g1, .int (nI n), .ref g2, .int (nI ln), .int (bI rd), .int fp, .int (nI st), .int mt, .int bg])), (g1, .inl (cA, 1000, .inl (fun j => nI (tb j)))), (g2, .inl (cA, 1000, .inl (fun j => nI (kb j))))] s.heap := hP
  have hD : va_D A [(g0, .inr (1, [.ref g1, .int (nI n), .ref g2, .int (nI ln), .int (bI rd), .int fp, .int (nI st), .int mt, .int bg])), (g1, .inl (cA, 1000, .inl (fun j => nI (tb j)))), (g2, .inl (cA, 1000, .inl (fun j => nI (kb j))))] := hD
  have hIn : ∀ w ∈ wsX10, w ∈ wsX1_put := by decide +kernel
  have hl := lv_entry ([.ref g0, .long v, .int q]) (n := 5) (Nat.le_of_ble_eq_true rfl)
  rw [lg_entry_eq]
  generalize (lg_sl ([.ref g0, .long v, .int q]) ++ List.replicate (5 - (lg_sl ([.ref g0, .long v, .int q])).length) Slot.unset).toArray = ls at hl ⊢
  have hl : lv_has ls 5 [(0, .ref g0), (1, .long v), (3, .int q)] := hl
  refine lv_iload_n hx hb dX1_put_0 rfl (lv_at hl 2 rfl) ?_
  refine lv_iconst (v := 1) hx hb dX1_put_1 (by decide) ?_
  refine lv_icmp_lt (tgt := 23) hx hb dX1_put_2 (by decide) (fun c_1 => ?_) (fun c_1 => ?_)
  · refine lv_iconst (v := 0) hx hb dX1_put_23 (by decide) ?_
    have hP9 : va_P (dC, dI) vwCl (mw g0 g1 g2 cA (tb, n, kb, ln, rd, fp, st, mt, bg)) s.heap := hP
    have hD9 : va_D A (mw g0 g1 g2 cA (tb, n, kb, ln, rd, fp, st, mt, bg)) := hD
    exact W.zret (v := 0) (ty := .boolean) hx hb hr (rfl) (fun t ht hW => ⟨⟨0, (tb, n, kb, ln, rd, fp, st, mt, bg), rfl, ⟨rfl, rfl⟩, by rw [ht]; exact hP9, va_K.moved hW.alike hK, hD9⟩, hS.F ht⟩) hS.2.2 dX1_put_24
  · refine lv_iload_n hx hb dX1_put_5 rfl (lv_at hl 2 rfl) ?_
    refine lv_bipush (v := 8) hx hb dX1_put_6 (by decide) ?_
    refine lv_icmp_gt (tgt := 23) hx hb dX1_put_8 (by decide) (fun c_2 => ?_) (fun c_2 => ?_)
    · refine lv_iconst (v := 0) hx hb dX1_put_23 (by decide) ?_
      have hP9 : va_P (dC, dI) vwCl (mw g0 g1 g2 cA (tb, n, kb, ln, rd, fp, st, mt, bg)) s.heap := hP
      have hD9 : va_D A (mw g0 g1 g2 cA (tb, n, kb, ln, rd, fp, st, mt, bg)) := hD
      exact W.zret (v := 0) (ty := .boolean) hx hb hr (rfl) (fun t ht hW => ⟨⟨0, (tb, n, kb, ln, rd, fp, st, mt, bg), rfl, ⟨rfl, rfl⟩, by rw [ht]; exact hP9, va_K.moved hW.alike hK, hD9⟩, hS.F ht⟩) hS.2.2 dX1_put_24
    · refine lv_aload_n hx hb dX1_put_11 rfl (lv_at hl 0 rfl) ?_
      refine va_get (D := (dC, dI)) (ci := 1) (v := .int (nI n)) (C := RX1) (T := TX1) (N := 9) hx hb hts hIn hown hK hP 0 rfl rfl 1 (by decide) (hts (.fieldLink RX1 20 RX1 "size" "I") (by decide +kernel)) (fun _ h9 => h9) rfl dX1_put_12 ?_
      refine lv_iload_n hx hb dX1_put_15 rfl (lv_at hl 2 rfl) ?_
      refine lv_iadd hx hb dX1_put_16 ?_
      refine lv_sipush (v := 1000) hx hb dX1_put_17 (by decide) ?_
      refine lv_icmp_le (tgt := 25) hx hb dX1_put_20 (by decide) (fun c_3 => ?_) (fun c_3 => ?_)
      · exact absurd hno (by rw [mPutOk, if_neg c_1, if_neg c_2, if_pos c_3]; decide)
      · refine lv_iconst (v := 0) hx hb dX1_put_23 (by decide) ?_
        have hP9 : va_P (dC, dI) vwCl (mw g0 g1 g2 cA (tb, n, kb, ln, rd, fp, st, mt, bg)) s.heap := hP
        have hD9 : va_D A (mw g0 g1 g2 cA (tb, n, kb, ln, rd, fp, st, mt, bg)) := hD
        exact W.zret (v := 0) (ty := .boolean) hx hb hr (rfl) (fun t ht hW => ⟨⟨0, (tb, n, kb, ln, rd, fp, st, mt, bg), rfl, ⟨rfl, rfl⟩, by rw [ht]; exact hP9, va_K.moved hW.alike hK, hD9⟩, hS.F ht⟩) hS.2.2 dX1_put_24
set_option maxHeartbeats 4000000 in
set_option maxRecDepth 100000 in
theorem c_X1_put_ok (l : Launch) (dC : Nat → ClassId) (dI : Nat → Nat → Nat) (g0 g1 g2 : Nat) (cA : ClassId) (sz : Nat) (tb : Nat → Nat) (n : Nat) (kb : Nat → Nat) (ln : Nat) (rd : Bool) (fp : Int32) (st : Nat) (mt bg : Int32) (v : Int64) (q : Nat) (h1q : 1 ≤ q) (hq8 : q ≤ 8) (hroom : n + q ≤ 1000) : Met l yX1_put wsX1_put ({ frames := 0, cells := 0, slots := 0, locals := 0 }) (va_Pc [.ref g0, .long v, .int (nI q)] (fun U => mmut dC dI g0 g1 g2 cA sz (tb, n, kb, ln, rd, fp, st, mt, bg) U)) (va_Qi (fun (r : Int32) (u : MS) => r = 1 ∧ u = (putN tb n (fun z => pbN v (q - 1 - z)) q, n + q, kb, ln, rd, fp, st, mt, bg)) (matt dC dI g0 g1 g2 cA (va_A (mw g0 g1 g2 cA (tb, n, kb, ln, rd, fp, st, mt, bg)) sz)) (va_A (mw g0 g1 g2 cA (tb, n, kb, ln, rd, fp, st, mt, bg)) sz)) 0 0 (va_A (mw g0 g1 g2 cA (tb, n, kb, ln, rd, fp, st, mt, bg)) sz) := by
  refine Met.ofW (cc := cX1_put) (maxL := 5) (ret := (some .boolean)) (by decide) rfl ?_
  intro p e s m args below meth c s₁ B hml hv
  obtain ⟨rfl, hsz, hP, hK, hD0⟩ := hv
  have hx := B.exec
  have hb := B.bytes
  have hr := B.returns
  have hts := atoms_spec (ws := wsX1_put) B.pre
  have hown : s.vm.findClass RX1 = some m.cls := findClass_of_methodNamed B.named
  subst hsz
  have hD := hD0.self (sz := s.heap.size)
  generalize hAe : va_A (mw g0 g1 g2 cA (tb, n, kb, ln, rd, fp, st, mt, bg)) s.heap.size = A at hD ⊢
  have hA : ∀ q : Nat, s.heap.size ≤ q → A q := fun q h => by rw [← hAe]; exact Or.inr h
  have hS : va_S A s.heap s.heap [] := va_S.rf
  have hP : va_P (dC, dI) vwCl [(g0, .inr (1, [.ref g1, .int (nI n), .ref g2, .int (nI ln), .int (bI rd), .int fp, .int (nI st), .int mt, .int bg])), (g1, .inl (cA, 1000, .inl (fun j => nI (tb j)))), (g2, .inl (cA, 1000, .inl (fun j => nI (kb j))))] s.heap := hP
  have hD : va_D A [(g0, .inr (1, [.ref g1, .int (nI n), .ref g2, .int (nI ln), .int (bI rd), .int fp, .int (nI st), .int mt, .int bg])), (g1, .inl (cA, 1000, .inl (fun j => nI (tb j)))), (g2, .inl (cA, 1000, .inl (fun j => nI (kb j))))] := hD
  have hIn : ∀ w ∈ wsX10, w ∈ wsX1_put := by decide +kernel
  have hl := lv_entry ([.ref g0, .long v, .int (nI q)]) (n := 5) (Nat.le_of_ble_eq_true rfl)
  rw [lg_entry_eq]
  generalize (lg_sl ([.ref g0, .long v, .int (nI q)]) ++ List.replicate (5 - (lg_sl ([.ref g0, .long v, .int (nI q)])).length) Slot.unset).toArray = ls at hl ⊢
  have hl : lv_has ls 5 [(0, .ref g0), (1, .long v), (3, .int (nI q))] := hl
  have loop : ∀ (d i : Nat) (H : Heap) (locs : List Loc) (ls : Array Slot), i + d = q → va_P (dC, dI) vwCl [(g0, .inr (1, [.ref g1, .int (nI (n + i)), .ref g2, .int (nI ln), .int (bI rd), .int fp, .int (nI st), .int mt, .int bg])), (g1, .inl (cA, 1000, .inl (fun j => nI ((putN tb n (fun z => pbN v (q - 1 - z)) i) j)))), (g2, .inl (cA, 1000, .inl (fun j => nI (kb j))))] H → va_D A [(g0, .inr (1, [.ref g1, .int (nI (n + i)), .ref g2, .int (nI ln), .int (bI rd), .int fp, .int (nI st), .int mt, .int bg])), (g1, .inl (cA, 1000, .inl (fun j => nI ((putN tb n (fun z => pbN v (q - 1 - z)) i) j)))), (g2, .inl (cA, 1000, .inl (fun j => nI (kb j))))] → va_S A s.heap H locs → lv_has ls 5 [(4, .int (nI d + (-1))), (0, .ref g0), (1, .long v), (3, .int (nI q))] → W p l e (headSpec wsX1_put ({ frames := 0, cells := 0, slots := 0, locals := 0 })).room s m ([.ref g0, .long v, .int (nI q)] : List Value).toArray below meth c H locs 0 0 (MQ below (va_Qi (fun (r : Int32) (u : MS) => r = 1 ∧ u = (putN tb n (fun z => pbN v (q - 1 - z)) q, n + q, kb, ln, rd, fp, st, mt, bg)) (matt dC dI g0 g1 g2 cA A) A) ([.ref g0, .long v, .int (nI q)] : List Value).toArray s 0 0 A) (F0 m 30 ls []) := by
    intro d
    induction d with
    | zero =>
      intro i H locs ls hid hP hD hS hl
      refine lv_iload hx hb dX1_put_30 (lv_at hl 0 rfl) ?_
      refine lv_if_lt (tgt := 72) hx hb dX1_put_32 (by decide) (fun c_1 => ?_) (fun c_1 => ?_)
      · refine lv_iconst (v := 1) hx hb dX1_put_72 (by decide) ?_
        have hP9 : va_P (dC, dI) vwCl (mw g0 g1 g2 cA ((putN tb n (fun z => pbN v (q - 1 - z)) i), (n + i), kb, ln, rd, fp, st, mt, bg)) H := hP
        have hD9 : va_D A (mw g0 g1 g2 cA ((putN tb n (fun z => pbN v (q - 1 - z)) i), (n + i), kb, ln, rd, fp, st, mt, bg)) := hD
        exact W.zret (v := 1) (ty := .boolean) hx hb hr (rfl) (fun t ht hW => ⟨⟨1, ((putN tb n (fun z => pbN v (q - 1 - z)) i), (n + i), kb, ln, rd, fp, st, mt, bg), rfl, ⟨rfl, by rw [show i = q by omega]⟩, by rw [ht]; exact hP9, va_K.moved hW.alike hK, hD9⟩, hS.F ht⟩) hS.2.2 dX1_put_73
      · exact absurd (show nI 0 + (-1) < 0 by decide) c_1
    | succ d ih =>
      intro i H locs ls hid hP hD hS hl
      rw [pk_m1] at hl
      refine lv_iload hx hb dX1_put_30 (lv_at hl 0 rfl) ?_
      refine lv_if_lt (tgt := 72) hx hb dX1_put_32 (by decide) (fun c_2 => ?_) (fun c_2 => ?_)
      · exact absurd c_2 (nI_pos (by omega))
      · have c_2 : ¬ d < 0 := fun zz => c_2 ((nI_ltI (a := d) (b := 0) (by omega) (by omega)).mpr zz)
        refine lv_aload_n hx hb dX1_put_35 rfl (lv_at hl 1 rfl) ?_
        refine va_get (D := (dC, dI)) (ci := 1) (v := .ref g1) (C := RX1) (T := TX1) (N := 9) hx hb hts hIn hown hK hP 0 rfl rfl 0 (by decide) (hts (.fieldLink RX1 7 RX1 "text" "[I") (by decide +kernel)) (fun _ h9 => h9) rfl dX1_put_36 ?_
        refine lv_aload_n hx hb dX1_put_39 rfl (lv_at hl 1 rfl) ?_
        refine va_get (D := (dC, dI)) (ci := 1) (v := .int (nI (n + i))) (C := RX1) (T := TX1) (N := 9) hx hb hts hIn hown hK hP 0 rfl rfl 1 (by decide) (hts (.fieldLink RX1 20 RX1 "size" "I") (by decide +kernel)) (fun _ h9 => h9) rfl dX1_put_40 ?_
        refine lv_lload_n hx hb dX1_put_43 rfl (lv_at hl 2 rfl) ?_
        refine lv_bipush (v := 8) hx hb dX1_put_44 (by decide) ?_
        refine lv_iload hx hb dX1_put_46 (lv_at hl 0 rfl) ?_
        refine lv_imul hx hb dX1_put_48 ?_
        refine lv_topi (fun x_3 ex_3 => ?_)
        obtain rfl : x_3 = nI (8 * d) := ex_3.trans (pk_mul 8 d)
        refine lv_lshr hx hb dX1_put_49 rfl ?_
        refine lv_ldc2 (own := RX1) (v := 255) hx hb hown (hts (.constantLong RX1 23 255) (by decide +kernel)) dX1_put_50 ?_
        refine lv_land hx hb dX1_put_53 ?_
        refine lv_l2i hx hb dX1_put_54 rfl ?_
        refine lv_topi (fun x_4 ex_4 => ?_)
        obtain rfl : x_4 = nI (pbN v d) := ex_4.trans (mPb_nI v d)
        refine va_iast hx hb hK hP hD hS 1 0 rfl rfl (vp_in_nI (by omega) (by omega)) dX1_put_55 (fun H locs hP hD hS => ?_)
        rw [nI_clamp (by omega), upd_nI] at hP hD
        have hP : va_P (dC, dI) vwCl [(g0, .inr (1, [.ref g1, .int (nI (n + i)), .ref g2, .int (nI ln), .int (bI rd), .int fp, .int (nI st), .int mt, .int bg])), (g1, .inl (cA, 1000, .inl (fun j => nI ((updN (putN tb n (fun z => pbN v (q - 1 - z)) i) (n + i) (pbN v d)) j)))), (g2, .inl (cA, 1000, .inl (fun j => nI (kb j))))] H := hP
        have hD : va_D A [(g0, .inr (1, [.ref g1, .int (nI (n + i)), .ref g2, .int (nI ln), .int (bI rd), .int fp, .int (nI st), .int mt, .int bg])), (g1, .inl (cA, 1000, .inl (fun j => nI ((updN (putN tb n (fun z => pbN v (q - 1 - z)) i) (n + i) (pbN v d)) j)))), (g2, .inl (cA, 1000, .inl (fun j => nI (kb j))))] := hD
        refine lv_aload_n hx hb dX1_put_56 rfl (lv_at hl 1 rfl) ?_
        refine lv_dup hx hb dX1_put_57 rfl ?_
        refine va_get (D := (dC, dI)) (ci := 1) (v := .int (nI (n + i))) (C := RX1) (T := TX1) (N := 9) hx hb hts hIn hown hK hP 0 rfl rfl 1 (by decide) (hts (.fieldLink RX1 20 RX1 "size" "I") (by decide +kernel)) (fun _ h9 => h9) rfl dX1_put_58 ?_
        refine lv_iconst (v := 1) hx hb dX1_put_61 (by decide) ?_
        refine lv_iadd hx hb dX1_put_62 ?_
        refine lv_topi (fun x_5 ex_5 => ?_)
        obtain rfl : x_5 = nI (n + i + 1) := ex_5.trans (nI_add (n + i) 1)
        refine va_put (D := (dC, dI)) (ci := 1) (v := .int (nI (n + i + 1))) (ty := .int) (C := RX1) (T := TX1) (N := 9) hx hb hts hIn tyX1 tyX1_ok nmX1 hown hK hP hD hS 0 rfl rfl 1 (by decide) (hts (.fieldLink RX1 20 RX1 "size" "I") (by decide +kernel)) (fun _ h9 => h9) rfl (by decide +kernel) rfl rfl (Nat.le_of_ble_eq_true rfl) dX1_put_63 (fun H locs hP hD hS => ?_)
        have hP : va_P (dC, dI) vwCl [(g0, .inr (1, [.ref g1, .int (nI (n + i + 1)), .ref g2, .int (nI ln), .int (bI rd), .int fp, .int (nI st), .int mt, .int bg])), (g1, .inl (cA, 1000, .inl (fun j => nI ((updN (putN tb n (fun z => pbN v (q - 1 - z)) i) (n + i) (pbN v d)) j)))), (g2, .inl (cA, 1000, .inl (fun j => nI (kb j))))] H := hP
        have hD : va_D A [(g0, .inr (1, [.ref g1, .int (nI (n + i + 1)), .ref g2, .int (nI ln), .int (bI rd), .int fp, .int (nI st), .int mt, .int bg])), (g1, .inl (cA, 1000, .inl (fun j => nI ((updN (putN tb n (fun z => pbN v (q - 1 - z)) i) (n + i) (pbN v d)) j)))), (g2, .inl (cA, 1000, .inl (fun j => nI (kb j))))] := hD
        refine lv_iinc (v := nI d + (-1)) (lv' := [(4, .int (nI d + (-1))), (0, .ref g0), (1, .long v), (3, .int (nI q))]) hx hb dX1_put_66 hl (k := 0) rfl rfl (by decide) rfl (fun ls hl => ?_)
        refine lv_goto (tgt := 30) hx hb dX1_put_69 (by decide) ?_
        have hput : updN (putN tb n (fun z => pbN v (q - 1 - z)) i) (n + i) (pbN v d) = putN tb n (fun z => pbN v (q - 1 - z)) (i + 1) := by rw [putN, show q - 1 - i = d by omega]
        rw [hput] at hP hD
        exact ih (i + 1) H locs ls (by omega) hP hD hS (lv_sub hl [0, 1, 2, 3] rfl)
  refine lv_iload_n hx hb dX1_put_0 rfl (lv_at hl 2 rfl) ?_
  refine lv_iconst (v := 1) hx hb dX1_put_1 (by decide) ?_
  refine lv_icmp_lt (tgt := 23) hx hb dX1_put_2 (by decide) (fun c_6 => ?_) (fun c_6 => ?_)
  · exact absurd (show nI q < nI 1 from c_6) (nI_nlt (by omega) (by omega))
  · have c_6 : ¬ q < 1 := fun zz => c_6 ((nI_ltI (a := q) (b := 1) (by omega) (by omega)).mpr zz)
    refine lv_iload_n hx hb dX1_put_5 rfl (lv_at hl 2 rfl) ?_
    refine lv_bipush (v := 8) hx hb dX1_put_6 (by decide) ?_
    refine lv_icmp_gt (tgt := 23) hx hb dX1_put_8 (by decide) (fun c_7 => ?_) (fun c_7 => ?_)
    · exact absurd (show nI 8 < nI q from c_7) (nI_nlt (by omega) (by omega))
    · have c_7 : ¬ 8 < q := fun zz => c_7 ((nI_ltI (a := 8) (b := q) (by omega) (by omega)).mpr zz)
      refine lv_aload_n hx hb dX1_put_11 rfl (lv_at hl 0 rfl) ?_
      refine va_get (D := (dC, dI)) (ci := 1) (v := .int (nI n)) (C := RX1) (T := TX1) (N := 9) hx hb hts hIn hown hK hP 0 rfl rfl 1 (by decide) (hts (.fieldLink RX1 20 RX1 "size" "I") (by decide +kernel)) (fun _ h9 => h9) rfl dX1_put_12 ?_
      refine lv_iload_n hx hb dX1_put_15 rfl (lv_at hl 2 rfl) ?_
      refine lv_iadd hx hb dX1_put_16 ?_
      refine lv_topi (fun x_8 ex_8 => ?_)
      obtain rfl : x_8 = nI (n + q) := ex_8.trans (nI_add n q)
      refine lv_sipush (v := 1000) hx hb dX1_put_17 (by decide) ?_
      refine lv_icmp_le (tgt := 25) hx hb dX1_put_20 (by decide) (fun c_9 => ?_) (fun c_9 => ?_)
      · have c_9 : n + q ≤ 1000 := (nI_leI (a := n + q) (b := 1000) (by omega) (by omega)).mp c_9
        refine lv_iload_n hx hb dX1_put_25 rfl (lv_at hl 2 rfl) ?_
        refine lv_iconst (v := 1) hx hb dX1_put_26 (by decide) ?_
        refine lv_isub hx hb dX1_put_27 ?_
        refine lv_topi (fun x_10 ex_10 => ?_)
        obtain rfl : x_10 = nI q + (-1) := ex_10.trans ((pk_sub (b := 1) (by omega)).trans (sb_m1 (by omega)).symm)
        refine lv_istore (lv' := [(4, .int (nI q + (-1))), (0, .ref g0), (1, .long v), (3, .int (nI q))]) hx hb dX1_put_28 hl (by decide) rfl (fun ls hl => ?_)
        exact loop q 0 s.heap [] ls (by omega) hP hD hS (lv_sub hl [0, 1, 2, 3] rfl)
      · exact absurd (show nI (n + q) ≤ nI 1000 from nI_le (by omega) (by omega)) c_9
set_option maxHeartbeats 4000000 in
set_option maxRecDepth 100000 in
theorem c_X1_character_no (l : Launch) (dC : Nat → ClassId) (dI : Nat → Nat → Nat) (g0 g1 g2 : Nat) (cA : ClassId) (sz : Nat) (tb : Nat → Nat) (n : Nat) (kb : Nat → Nat) (ln : Nat) (rd : Bool) (fp : Int32) (st : Nat) (mt bg : Int32) (v : Int32) (hno : mChOk n v = false) : Met l yX1_character wsX1_character ({ frames := 2, cells := 0, slots := 0, locals := 45 }) (va_Pc [.ref g0, .int v] (fun U => mmut dC dI g0 g1 g2 cA sz (tb, n, kb, ln, rd, fp, st, mt, bg) U)) (va_Qi (fun (r : Int32) (u : MS) => r = 0 ∧ u = (tb, n, kb, ln, rd, fp, st, mt, bg)) (matt dC dI g0 g1 g2 cA (va_A (mw g0 g1 g2 cA (tb, n, kb, ln, rd, fp, st, mt, bg)) sz)) (va_A (mw g0 g1 g2 cA (tb, n, kb, ln, rd, fp, st, mt, bg)) sz)) 0 0 (va_A (mw g0 g1 g2 cA (tb, n, kb, ln, rd, fp, st, mt, bg)) sz) := by
  refine Met.ofW (cc := cX1_character) (maxL := 4) (ret := (some .boolean)) (by decide) rfl ?_
  intro p e s m args below meth c s₁ B hml hv
  obtain ⟨rfl, hsz, hP, hK, hD0⟩ := hv
  have hx := B.exec
  have hb := B.bytes
  have hr := B.returns
  have hts := atoms_spec (ws := wsX1_character) B.pre
  have hown : s.vm.findClass RX1 = some m.cls := findClass_of_methodNamed B.named
  subst hsz
  have hD := hD0.self (sz := s.heap.size)
  generalize hAe : va_A (mw g0 g1 g2 cA (tb, n, kb, ln, rd, fp, st, mt, bg)) s.heap.size = A at hD ⊢
  have hA : ∀ q : Nat, s.heap.size ≤ q → A q := fun q h => by rw [← hAe]; exact Or.inr h
  have hS : va_S A s.heap s.heap [] := va_S.rf
  have hP : va_P (dC, dI) vwCl [(g0, .inr (1, [.ref g1, .int (nI n), .ref g2, .int (nI ln), .int (bI rd), .int fp, .int (nI st), .int mt, .int bg])), (g1, .inl (cA, 1000, .inl (fun j => nI (tb j)))), (g2, .inl (cA, 1000, .inl (fun j => nI (kb j))))] s.heap := hP
  have hD : va_D A [(g0, .inr (1, [.ref g1, .int (nI n), .ref g2, .int (nI ln), .int (bI rd), .int fp, .int (nI st), .int mt, .int bg])), (g1, .inl (cA, 1000, .inl (fun j => nI (tb j)))), (g2, .inl (cA, 1000, .inl (fun j => nI (kb j))))] := hD
  have hIn : ∀ w ∈ wsX10, w ∈ wsX1_character := by decide +kernel
  have hl := lv_entry ([.ref g0, .int v]) (n := 4) (Nat.le_of_ble_eq_true rfl)
  rw [lg_entry_eq]
  generalize (lg_sl ([.ref g0, .int v]) ++ List.replicate (4 - (lg_sl ([.ref g0, .int v])).length) Slot.unset).toArray = ls at hl ⊢
  have hl : lv_has ls 4 [(0, .ref g0), (1, .int v)] := hl
  refine lv_iload_n hx hb dX1_character_0 rfl (lv_at hl 1 rfl) ?_
  refine vp_callSi (W.runS (As := [.int v]) (rest := []) ⟨hx, hb, hml, hown, hts⟩ (c_X1_has l v) (va_cwS 1 hts gX1_character_X1_has rfl rfl rfl (by decide +kernel) ⟨Nat.le_of_ble_eq_true rfl, Nat.le_of_ble_eq_true rfl⟩) ⟨fun _ _ _ _ q => q, fun U hU hW => ⟨rfl, trivial⟩⟩ rfl rfl hl.1 rfl (lv_room (Nat.le_of_ble_eq_true rfl)) dX1_character_1 ⟨Nat.le_of_ble_eq_true rfl, Nat.le_of_ble_eq_true rfl⟩) (fun r_1 er_1 => ?_)
  obtain rfl : r_1 = bI (mHas v) := er_1
  refine lv_if_eq (tgt := 22) hx hb dX1_character_4 (by decide) (fun c_2 => ?_) (fun c_2 => ?_)
  · have c_2 := bI_0 c_2
    refine lv_iconst (v := 0) hx hb dX1_character_22 (by decide) ?_
    have hP9 : va_P (dC, dI) vwCl (mw g0 g1 g2 cA (tb, n, kb, ln, rd, fp, st, mt, bg)) s.heap := hP
    have hD9 : va_D A (mw g0 g1 g2 cA (tb, n, kb, ln, rd, fp, st, mt, bg)) := hD
    exact W.zret (v := 0) (ty := .boolean) hx hb hr (rfl) (fun t ht hW => ⟨⟨0, (tb, n, kb, ln, rd, fp, st, mt, bg), rfl, ⟨rfl, rfl⟩, by rw [ht]; exact hP9, va_K.moved hW.alike hK, hD9⟩, hS.F ht⟩) hS.2.2 dX1_character_23
  · have c_2 := bI_n0 c_2
    refine lv_aload_n hx hb dX1_character_7 rfl (lv_at hl 0 rfl) ?_
    refine va_get (D := (dC, dI)) (ci := 1) (v := .int (nI n)) (C := RX1) (T := TX1) (N := 9) hx hb hts hIn hown hK hP 0 rfl rfl 1 (by decide) (hts (.fieldLink RX1 20 RX1 "size" "I") (by decide +kernel)) (fun _ h9 => h9) rfl dX1_character_8 ?_
    refine lv_iload_n hx hb dX1_character_11 rfl (lv_at hl 1 rfl) ?_
    refine vp_callSi (W.runS (As := [.int v]) (rest := [.int (nI n)]) ⟨hx, hb, hml, hown, hts⟩ (c_X1_sizeOf l v) (va_cwS 1 hts gX1_character_X1_sizeOf rfl rfl rfl (by decide +kernel) ⟨Nat.le_of_ble_eq_true rfl, Nat.le_of_ble_eq_true rfl⟩) ⟨fun _ _ _ _ q => q, fun U hU hW => ⟨rfl, trivial⟩⟩ rfl rfl hl.1 rfl (lv_room (Nat.le_of_ble_eq_true rfl)) dX1_character_12 ⟨Nat.le_of_ble_eq_true rfl, Nat.le_of_ble_eq_true rfl⟩) (fun r_3 er_3 => ?_)
    obtain rfl : r_3 = mSize v := er_3
    refine lv_iadd hx hb dX1_character_15 ?_
    refine lv_sipush (v := 1000) hx hb dX1_character_16 (by decide) ?_
    refine lv_icmp_le (tgt := 24) hx hb dX1_character_19 (by decide) (fun c_4 => ?_) (fun c_4 => ?_)
    · exact absurd hno (by rw [mChOk, if_pos c_2, if_pos c_4]; decide)
    · refine lv_iconst (v := 0) hx hb dX1_character_22 (by decide) ?_
      have hP9 : va_P (dC, dI) vwCl (mw g0 g1 g2 cA (tb, n, kb, ln, rd, fp, st, mt, bg)) s.heap := hP
      have hD9 : va_D A (mw g0 g1 g2 cA (tb, n, kb, ln, rd, fp, st, mt, bg)) := hD
      exact W.zret (v := 0) (ty := .boolean) hx hb hr (rfl) (fun t ht hW => ⟨⟨0, (tb, n, kb, ln, rd, fp, st, mt, bg), rfl, ⟨rfl, rfl⟩, by rw [ht]; exact hP9, va_K.moved hW.alike hK, hD9⟩, hS.F ht⟩) hS.2.2 dX1_character_23
set_option maxHeartbeats 4000000 in
set_option maxRecDepth 100000 in
theorem c_X1_character_ok (l : Launch) (dC : Nat → ClassId) (dI : Nat → Nat → Nat) (g0 g1 g2 : Nat) (cA : ClassId) (sz : Nat) (tb : Nat → Nat) (n : Nat) (kb : Nat → Nat) (ln : Nat) (rd : Bool) (fp : Int32) (st : Nat) (mt bg : Int32) (v : Nat) (hv : v < 1114112) (hh : mHas (nI v) = true) (hroom : n + szN v ≤ 1000) : Met l yX1_character wsX1_character ({ frames := 2, cells := 0, slots := 0, locals := 45 }) (va_Pc [.ref g0, .int (nI v)] (fun U => mmut dC dI g0 g1 g2 cA sz (tb, n, kb, ln, rd, fp, st, mt, bg) U)) (va_Qi (fun (r : Int32) (u : MS) => r = 1 ∧ u = (putN tb n (fun z => encN v z) (szN v), n + szN v, kb, ln, rd, fp, st, mt, bg)) (matt dC dI g0 g1 g2 cA (va_A (mw g0 g1 g2 cA (tb, n, kb, ln, rd, fp, st, mt, bg)) sz)) (va_A (mw g0 g1 g2 cA (tb, n, kb, ln, rd, fp, st, mt, bg)) sz)) 0 0 (va_A (mw g0 g1 g2 cA (tb, n, kb, ln, rd, fp, st, mt, bg)) sz) := by
  refine Met.ofW (cc := cX1_character) (maxL := 4) (ret := (some .boolean)) (by decide) rfl ?_
  intro p e s m args below meth c s₁ B hml hv
  obtain ⟨rfl, hsz, hP, hK, hD0⟩ := hv
  have hx := B.exec
  have hb := B.bytes
  have hr := B.returns
  have hts := atoms_spec (ws := wsX1_character) B.pre
  have hown : s.vm.findClass RX1 = some m.cls := findClass_of_methodNamed B.named
  subst hsz
  have hD := hD0.self (sz := s.heap.size)
  generalize hAe : va_A (mw g0 g1 g2 cA (tb, n, kb, ln, rd, fp, st, mt, bg)) s.heap.size = A at hD ⊢
  have hA : ∀ q : Nat, s.heap.size ≤ q → A q := fun q h => by rw [← hAe]; exact Or.inr h
  have hS : va_S A s.heap s.heap [] := va_S.rf
  have hP : va_P (dC, dI) vwCl [(g0, .inr (1, [.ref g1, .int (nI n), .ref g2, .int (nI ln), .int (bI rd), .int fp, .int (nI st), .int mt, .int bg])), (g1, .inl (cA, 1000, .inl (fun j => nI (tb j)))), (g2, .inl (cA, 1000, .inl (fun j => nI (kb j))))] s.heap := hP
  have hD : va_D A [(g0, .inr (1, [.ref g1, .int (nI n), .ref g2, .int (nI ln), .int (bI rd), .int fp, .int (nI st), .int mt, .int bg])), (g1, .inl (cA, 1000, .inl (fun j => nI (tb j)))), (g2, .inl (cA, 1000, .inl (fun j => nI (kb j))))] := hD
  have hIn : ∀ w ∈ wsX10, w ∈ wsX1_character := by decide +kernel
  have hl := lv_entry ([.ref g0, .int (nI v)]) (n := 4) (Nat.le_of_ble_eq_true rfl)
  rw [lg_entry_eq]
  generalize (lg_sl ([.ref g0, .int (nI v)]) ++ List.replicate (4 - (lg_sl ([.ref g0, .int (nI v)])).length) Slot.unset).toArray = ls at hl ⊢
  have hl : lv_has ls 4 [(0, .ref g0), (1, .int (nI v))] := hl
  have hsz := szN_in v
  have loop : ∀ (d i : Nat) (H : Heap) (locs : List Loc) (ls : Array Slot), i + d = szN v → va_P (dC, dI) vwCl [(g0, .inr (1, [.ref g1, .int (nI (n + i)), .ref g2, .int (nI ln), .int (bI rd), .int fp, .int (nI st), .int mt, .int bg])), (g1, .inl (cA, 1000, .inl (fun j => nI ((putN tb n (fun z => encN v z) i) j)))), (g2, .inl (cA, 1000, .inl (fun j => nI (kb j))))] H → va_D A [(g0, .inr (1, [.ref g1, .int (nI (n + i)), .ref g2, .int (nI ln), .int (bI rd), .int fp, .int (nI st), .int mt, .int bg])), (g1, .inl (cA, 1000, .inl (fun j => nI ((putN tb n (fun z => encN v z) i) j)))), (g2, .inl (cA, 1000, .inl (fun j => nI (kb j))))] → va_S A s.heap H locs → lv_has ls 4 [(3, .int (nI i)), (2, .int (nI (szN v))), (0, .ref g0), (1, .int (nI v))] → W p l e (headSpec wsX1_character ({ frames := 2, cells := 0, slots := 0, locals := 45 })).room s m ([.ref g0, .int (nI v)] : List Value).toArray below meth c H locs 0 0 (MQ below (va_Qi (fun (r : Int32) (u : MS) => r = 1 ∧ u = (putN tb n (fun z => encN v z) (szN v), n + szN v, kb, ln, rd, fp, st, mt, bg)) (matt dC dI g0 g1 g2 cA A) A) ([.ref g0, .int (nI v)] : List Value).toArray s 0 0 A) (F0 m 31 ls []) := by
    intro d
    induction d with
    | zero =>
      intro i H locs ls hid hP hD hS hl
      refine lv_iload_n hx hb dX1_character_31 rfl (lv_at hl 0 rfl) ?_
      refine lv_iload_n hx hb dX1_character_32 rfl (lv_at hl 1 rfl) ?_
      refine lv_icmp_ge (tgt := 66) hx hb dX1_character_33 (by decide) (fun c_1 => ?_) (fun c_1 => ?_)
      · have c_1 : szN v ≤ i := (nI_leI (a := szN v) (b := i) (by omega) (by omega)).mp c_1
        refine lv_iconst (v := 1) hx hb dX1_character_66 (by decide) ?_
        have hP9 : va_P (dC, dI) vwCl (mw g0 g1 g2 cA ((putN tb n (fun z => encN v z) i), (n + i), kb, ln, rd, fp, st, mt, bg)) H := hP
        have hD9 : va_D A (mw g0 g1 g2 cA ((putN tb n (fun z => encN v z) i), (n + i), kb, ln, rd, fp, st, mt, bg)) := hD
        exact W.zret (v := 1) (ty := .boolean) hx hb hr (rfl) (fun t ht hW => ⟨⟨1, ((putN tb n (fun z => encN v z) i), (n + i), kb, ln, rd, fp, st, mt, bg), rfl, ⟨rfl, by rw [show i = szN v by omega]⟩, by rw [ht]; exact hP9, va_K.moved hW.alike hK, hD9⟩, hS.F ht⟩) hS.2.2 dX1_character_67
      · exact absurd (nI_le (by omega) (by omega)) c_1
    | succ d ih =>
      intro i H locs ls hid hP hD hS hl
      refine lv_iload_n hx hb dX1_character_31 rfl (lv_at hl 0 rfl) ?_
      refine lv_iload_n hx hb dX1_character_32 rfl (lv_at hl 1 rfl) ?_
      refine lv_icmp_ge (tgt := 66) hx hb dX1_character_33 (by decide) (fun c_2 => ?_) (fun c_2 => ?_)
      · exact absurd c_2 (nI_ge (by omega) (by omega))
      · have c_2 : ¬ szN v ≤ i := fun zz => c_2 ((nI_leI (a := szN v) (b := i) (by omega) (by omega)).mpr zz)
        refine lv_aload_n hx hb dX1_character_36 rfl (lv_at hl 2 rfl) ?_
        refine va_get (D := (dC, dI)) (ci := 1) (v := .ref g1) (C := RX1) (T := TX1) (N := 9) hx hb hts hIn hown hK hP 0 rfl rfl 0 (by decide) (hts (.fieldLink RX1 7 RX1 "text" "[I") (by decide +kernel)) (fun _ h9 => h9) rfl dX1_character_37 ?_
        refine lv_aload_n hx hb dX1_character_40 rfl (lv_at hl 2 rfl) ?_
        refine va_get (D := (dC, dI)) (ci := 1) (v := .int (nI (n + i))) (C := RX1) (T := TX1) (N := 9) hx hb hts hIn hown hK hP 0 rfl rfl 1 (by decide) (hts (.fieldLink RX1 20 RX1 "size" "I") (by decide +kernel)) (fun _ h9 => h9) rfl dX1_character_41 ?_
        refine lv_iload_n hx hb dX1_character_44 rfl (lv_at hl 3 rfl) ?_
        refine lv_iload_n hx hb dX1_character_45 rfl (lv_at hl 0 rfl) ?_
        refine vp_callSi (W.runS (As := [.int (nI v), .int (nI i)]) (rest := [.int (nI (n + i)), .ref g1]) ⟨hx, hb, hml, hown, hts⟩ (c_X1_byteOf l v i (by omega) (by omega)) (va_cwS 2 hts gX1_character_X1_byteOf rfl rfl rfl (by decide +kernel) ⟨Nat.le_of_ble_eq_true rfl, Nat.le_of_ble_eq_true rfl⟩) ⟨fun _ _ _ _ q => q, fun U hU hW => ⟨rfl, trivial⟩⟩ rfl rfl hl.1 rfl (lv_room (Nat.le_of_ble_eq_true rfl)) dX1_character_46 ⟨Nat.le_of_ble_eq_true rfl, Nat.le_of_ble_eq_true rfl⟩) (fun r_3 er_3 => ?_)
        obtain rfl : r_3 = nI (encN v i) := er_3
        refine va_iast hx hb hK hP hD hS 1 0 rfl rfl (vp_in_nI (by omega) (by omega)) dX1_character_49 (fun H locs hP hD hS => ?_)
        rw [nI_clamp (by omega), upd_nI] at hP hD
        have hP : va_P (dC, dI) vwCl [(g0, .inr (1, [.ref g1, .int (nI (n + i)), .ref g2, .int (nI ln), .int (bI rd), .int fp, .int (nI st), .int mt, .int bg])), (g1, .inl (cA, 1000, .inl (fun j => nI ((updN (putN tb n (fun z => encN v z) i) (n + i) (encN v i)) j)))), (g2, .inl (cA, 1000, .inl (fun j => nI (kb j))))] H := hP
        have hD : va_D A [(g0, .inr (1, [.ref g1, .int (nI (n + i)), .ref g2, .int (nI ln), .int (bI rd), .int fp, .int (nI st), .int mt, .int bg])), (g1, .inl (cA, 1000, .inl (fun j => nI ((updN (putN tb n (fun z => encN v z) i) (n + i) (encN v i)) j)))), (g2, .inl (cA, 1000, .inl (fun j => nI (kb j))))] := hD
        refine lv_aload_n hx hb dX1_character_50 rfl (lv_at hl 2 rfl) ?_
        refine lv_dup hx hb dX1_character_51 rfl ?_
        refine va_get (D := (dC, dI)) (ci := 1) (v := .int (nI (n + i))) (C := RX1) (T := TX1) (N := 9) hx hb hts hIn hown hK hP 0 rfl rfl 1 (by decide) (hts (.fieldLink RX1 20 RX1 "size" "I") (by decide +kernel)) (fun _ h9 => h9) rfl dX1_character_52 ?_
        refine lv_iconst (v := 1) hx hb dX1_character_55 (by decide) ?_
        refine lv_iadd hx hb dX1_character_56 ?_
        refine lv_topi (fun x_4 ex_4 => ?_)
        obtain rfl : x_4 = nI (n + i + 1) := ex_4.trans (nI_add (n + i) 1)
        refine va_put (D := (dC, dI)) (ci := 1) (v := .int (nI (n + i + 1))) (ty := .int) (C := RX1) (T := TX1) (N := 9) hx hb hts hIn tyX1 tyX1_ok nmX1 hown hK hP hD hS 0 rfl rfl 1 (by decide) (hts (.fieldLink RX1 20 RX1 "size" "I") (by decide +kernel)) (fun _ h9 => h9) rfl (by decide +kernel) rfl rfl (Nat.le_of_ble_eq_true rfl) dX1_character_57 (fun H locs hP hD hS => ?_)
        have hP : va_P (dC, dI) vwCl [(g0, .inr (1, [.ref g1, .int (nI (n + i + 1)), .ref g2, .int (nI ln), .int (bI rd), .int fp, .int (nI st), .int mt, .int bg])), (g1, .inl (cA, 1000, .inl (fun j => nI ((updN (putN tb n (fun z => encN v z) i) (n + i) (encN v i)) j)))), (g2, .inl (cA, 1000, .inl (fun j => nI (kb j))))] H := hP
        have hD : va_D A [(g0, .inr (1, [.ref g1, .int (nI (n + i + 1)), .ref g2, .int (nI ln), .int (bI rd), .int fp, .int (nI st), .int mt, .int bg])), (g1, .inl (cA, 1000, .inl (fun j => nI ((updN (putN tb n (fun z => encN v z) i) (n + i) (encN v i)) j)))), (g2, .inl (cA, 1000, .inl (fun j => nI (kb j))))] := hD
        refine lv_iinc (v := nI (i + 1)) (lv' := [(3, .int (nI (i + 1))), (2, .int (nI (szN v))), (0, .ref g0), (1, .int (nI v))]) hx hb dX1_character_60 hl (k := 0) rfl (nI_1 i) (by decide) rfl (fun ls hl => ?_)
        refine lv_goto (tgt := 31) hx hb dX1_character_63 (by decide) ?_
        exact ih (i + 1) H locs ls (by omega) hP hD hS (lv_sub hl [0, 1, 2, 3] rfl)
  refine lv_iload_n hx hb dX1_character_0 rfl (lv_at hl 1 rfl) ?_
  refine vp_callSi (W.runS (As := [.int (nI v)]) (rest := []) ⟨hx, hb, hml, hown, hts⟩ (c_X1_has l (nI v)) (va_cwS 1 hts gX1_character_X1_has rfl rfl rfl (by decide +kernel) ⟨Nat.le_of_ble_eq_true rfl, Nat.le_of_ble_eq_true rfl⟩) ⟨fun _ _ _ _ q => q, fun U hU hW => ⟨rfl, trivial⟩⟩ rfl rfl hl.1 rfl (lv_room (Nat.le_of_ble_eq_true rfl)) dX1_character_1 ⟨Nat.le_of_ble_eq_true rfl, Nat.le_of_ble_eq_true rfl⟩) (fun r_5 er_5 => ?_)
  obtain rfl : r_5 = bI (mHas (nI v)) := er_5
  refine lv_if_eq (tgt := 22) hx hb dX1_character_4 (by decide) (fun c_6 => ?_) (fun c_6 => ?_)
  · exact absurd hh (bI_0 c_6)
  · have c_6 := bI_n0 c_6
    refine lv_aload_n hx hb dX1_character_7 rfl (lv_at hl 0 rfl) ?_
    refine va_get (D := (dC, dI)) (ci := 1) (v := .int (nI n)) (C := RX1) (T := TX1) (N := 9) hx hb hts hIn hown hK hP 0 rfl rfl 1 (by decide) (hts (.fieldLink RX1 20 RX1 "size" "I") (by decide +kernel)) (fun _ h9 => h9) rfl dX1_character_8 ?_
    refine lv_iload_n hx hb dX1_character_11 rfl (lv_at hl 1 rfl) ?_
    refine vp_callSi (W.runS (As := [.int (nI v)]) (rest := [.int (nI n)]) ⟨hx, hb, hml, hown, hts⟩ (c_X1_sizeOf l (nI v)) (va_cwS 1 hts gX1_character_X1_sizeOf rfl rfl rfl (by decide +kernel) ⟨Nat.le_of_ble_eq_true rfl, Nat.le_of_ble_eq_true rfl⟩) ⟨fun _ _ _ _ q => q, fun U hU hW => ⟨rfl, trivial⟩⟩ rfl rfl hl.1 rfl (lv_room (Nat.le_of_ble_eq_true rfl)) dX1_character_12 ⟨Nat.le_of_ble_eq_true rfl, Nat.le_of_ble_eq_true rfl⟩) (fun r_7 er_7 => ?_)
    obtain rfl : r_7 = mSize (nI v) := er_7
    rw [mSize_nI (by omega)]
    refine lv_iadd hx hb dX1_character_15 ?_
    refine lv_topi (fun x_8 ex_8 => ?_)
    obtain rfl : x_8 = nI (n + (szN v)) := ex_8.trans (nI_add n (szN v))
    refine lv_sipush (v := 1000) hx hb dX1_character_16 (by decide) ?_
    refine lv_icmp_le (tgt := 24) hx hb dX1_character_19 (by decide) (fun c_9 => ?_) (fun c_9 => ?_)
    · have c_9 : n + (szN v) ≤ 1000 := (nI_leI (a := n + (szN v)) (b := 1000) (by omega) (by omega)).mp c_9
      refine lv_iload_n hx hb dX1_character_24 rfl (lv_at hl 1 rfl) ?_
      refine vp_callSi (W.runS (As := [.int (nI v)]) (rest := []) ⟨hx, hb, hml, hown, hts⟩ (c_X1_sizeOf l (nI v)) (va_cwS 1 hts gX1_character_X1_sizeOf rfl rfl rfl (by decide +kernel) ⟨Nat.le_of_ble_eq_true rfl, Nat.le_of_ble_eq_true rfl⟩) ⟨fun _ _ _ _ q => q, fun U hU hW => ⟨rfl, trivial⟩⟩ rfl rfl hl.1 rfl (lv_room (Nat.le_of_ble_eq_true rfl)) dX1_character_25 ⟨Nat.le_of_ble_eq_true rfl, Nat.le_of_ble_eq_true rfl⟩) (fun r_10 er_10 => ?_)
      obtain rfl : r_10 = mSize (nI v) := er_10
      rw [mSize_nI (by omega)]
      refine lv_istore_n (lv' := [(2, .int (nI (szN v))), (0, .ref g0), (1, .int (nI v))]) hx hb dX1_character_28 rfl hl (by decide) rfl (fun ls hl => ?_)
      refine lv_iconst (v := 0) hx hb dX1_character_29 (by decide) ?_
      refine lv_istore_n (lv' := [(3, .int 0), (2, .int (nI (szN v))), (0, .ref g0), (1, .int (nI v))]) hx hb dX1_character_30 rfl hl (by decide) rfl (fun ls hl => ?_)
      exact loop (szN v) 0 s.heap [] ls (by omega) hP hD hS (lv_sub hl [0, 1, 2, 3] rfl)
    · exact absurd (show nI (n + szN v) ≤ nI 1000 from nI_le (by omega) (by omega)) c_9
