theorem cmpN_eq {f g : Nat → Int32} {d z : Nat} (c : f z = g z) : cmpAt f g (d + 1) z = cmpAt f g d (z + 1) := by rw [cmpAt, if_pos c]
theorem cmpN_gt {f g : Nat → Int32} {d z : Nat} (c1 : ¬ f z = g z) (c2 : g z ≤ f z) : 1 = cmpAt f g (d + 1) z := by rw [cmpAt, if_neg c1, if_neg (Int32.not_lt.mpr c2)]
theorem cmpN_lt {f g : Nat → Int32} {d z : Nat} (c1 : ¬ f z = g z) (c2 : ¬ g z ≤ f z) : -1 = cmpAt f g (d + 1) z := by rw [cmpAt, if_neg c1, if_pos (Int32.not_le.mp c2)]
def CmpCase (rd : Bool) (k : Nat) (mf : Nat → Nat) (i j q res : Int32) : Prop :=
  (rd = false ∧ res = -2) ∨ (rd = true ∧ (q < 0 ∨ i < 0 ∨ j < 0) ∧ res = -2) ∨ (rd = true ∧ ∃ a b m : Nat, a < 2 ^ 31 ∧ b < 2 ^ 31 ∧ m < 2 ^ 31 ∧ i = nI a ∧ j = nI b ∧ q = nI m ∧ res = if k < a + m then -2 else if k < b + m then -2 else cmpAt (fun y => nI (mf (a + y))) (fun y => nI (mf (b + y))) m 0)
set_option maxHeartbeats 4000000 in
set_option maxRecDepth 100000 in
theorem c_X1_compare (l : Launch) (dC : Nat → ClassId) (dI : Nat → Nat → Nat) (g0 g1 g2 : Nat) (cA : ClassId) (sz : Nat) (tb : Nat → Nat) (n : Nat) (kb : Nat → Nat) (ln : Nat) (rd : Bool) (fp : Int32) (st : Nat) (mt bg : Int32) (hkb : ∀ j, kb j < 256) (hln : ln ≤ 1000) (k : Nat) (hk : k ≤ 1000) (mf bf sg : Nat → Nat) (hch : rd = true → Chain kb ln k mf bf sg) (ia ib iq res : Int32) (hc : CmpCase rd k mf ia ib iq res) : Met l yX1_compare wsX1_compare ({ frames := 4, cells := 0, slots := 0, locals := 89 }) (va_Pc [.ref g0, .int ia, .int ib, .int iq] (fun U => mmut dC dI g0 g1 g2 cA sz (tb, n, kb, ln, rd, fp, st, mt, bg) U)) (va_Qi (fun (r : Int32) (u : MS) => r = res ∧ ∃ (st' : Nat) (mt' bg' : Int32), u = (tb, n, kb, ln, rd, fp, st', mt', bg')) (matt dC dI g0 g1 g2 cA (va_A (mw g0 g1 g2 cA (tb, n, kb, ln, rd, fp, st, mt, bg)) sz)) (va_A (mw g0 g1 g2 cA (tb, n, kb, ln, rd, fp, st, mt, bg)) sz)) 0 0 (va_A (mw g0 g1 g2 cA (tb, n, kb, ln, rd, fp, st, mt, bg)) sz) := by
  refine Met.ofW (cc := cX1_compare) (maxL := 7) (ret := (some .int)) (by decide) rfl ?_
  intro p e s m args below meth c s₁ B hml hv
  obtain ⟨rfl, hsz, hP, hK, hD0⟩ := hv
  have hx := B.exec
  have hb := B.bytes
  have hr := B.returns
  have hts := atoms_spec (ws := wsX1_compare) B.pre
  have hown : s.vm.findClass RX1 = some m.cls := findClass_of_methodNamed B.named
  subst hsz
  have hD := hD0.self (sz := s.heap.size)
  generalize hAe : va_A (mw g0 g1 g2 cA (tb, n, kb, ln, rd, fp, st, mt, bg)) s.heap.size = A at hD ⊢
  have hA : ∀ q : Nat, s.heap.size ≤ q → A q := fun q h => by rw [← hAe]; exact Or.inr h
  have hS : va_S A s.heap s.heap [] := va_S.rf
  have hP : va_P (dC, dI) vwCl [(g0, .inr (1, [.ref g1, .int (nI n), .ref g2, .int (nI ln), .int (bI rd), .int fp, .int (nI st), .int mt, .int bg])), (g1, .inl (cA, 1000, .inl (fun j => nI (tb j)))), (g2, .inl (cA, 1000, .inl (fun j => nI (kb j))))] s.heap := hP
  have hD : va_D A [(g0, .inr (1, [.ref g1, .int (nI n), .ref g2, .int (nI ln), .int (bI rd), .int fp, .int (nI st), .int mt, .int bg])), (g1, .inl (cA, 1000, .inl (fun j => nI (tb j)))), (g2, .inl (cA, 1000, .inl (fun j => nI (kb j))))] := hD
  have hIn : ∀ w ∈ wsX10, w ∈ wsX1_compare := by decide +kernel
  have hl := lv_entry ([.ref g0, .int ia, .int ib, .int iq]) (n := 7) (Nat.le_of_ble_eq_true rfl)
  rw [lg_entry_eq]
  generalize (lg_sl ([.ref g0, .int ia, .int ib, .int iq]) ++ List.replicate (7 - (lg_sl ([.ref g0, .int ia, .int ib, .int iq])).length) Slot.unset).toArray = ls at hl ⊢
  have hl : lv_has ls 7 [(0, .ref g0), (1, .int ia), (2, .int ib), (3, .int iq)] := hl
  rcases hc with ⟨rfl, rfl⟩ | ⟨hrd, hneg, rfl⟩ | ⟨hrd, a, b, m', ha, hb', hm', rfl, rfl, rfl, hR0⟩
  · refine lv_aload_n hx hb dX1_compare_0 rfl (lv_at hl 0 rfl) ?_
    refine va_get (D := (dC, dI)) (ci := 1) (v := .int (bI false)) (C := RX1) (T := TX1) (N := 9) hx hb hts hIn hown hK hP 0 rfl rfl 4 (by decide) (hts (.fieldLink RX1 60 RX1 "read" "Z") (by decide +kernel)) (fun _ h9 => h9) rfl dX1_compare_1 ?_
    refine lv_if_eq (tgt := 19) hx hb dX1_compare_4 (by decide) (fun c_1 => ?_) (fun c_1 => ?_)
    · have c_1 := bI_0 c_1
      refine lv_bipush (v := -2) hx hb dX1_compare_19 (by decide) ?_
      have hP9 : va_P (dC, dI) vwCl (mw g0 g1 g2 cA (tb, n, kb, ln, false, fp, st, mt, bg)) s.heap := hP
      have hD9 : va_D A (mw g0 g1 g2 cA (tb, n, kb, ln, false, fp, st, mt, bg)) := hD
      exact W.iret (v := (-2)) hx hb hr (fun t ht hW => ⟨⟨(-2), (tb, n, kb, ln, false, fp, st, mt, bg), rfl, ⟨rfl, _, _, _, rfl⟩, by rw [ht]; exact hP9, va_K.moved hW.alike hK, hD9⟩, hS.F ht⟩) hS.2.2 dX1_compare_21
    · exact absurd rfl c_1
  · refine lv_aload_n hx hb dX1_compare_0 rfl (lv_at hl 0 rfl) ?_
    refine va_get (D := (dC, dI)) (ci := 1) (v := .int (bI rd)) (C := RX1) (T := TX1) (N := 9) hx hb hts hIn hown hK hP 0 rfl rfl 4 (by decide) (hts (.fieldLink RX1 60 RX1 "read" "Z") (by decide +kernel)) (fun _ h9 => h9) rfl dX1_compare_1 ?_
    refine lv_if_eq (tgt := 19) hx hb dX1_compare_4 (by decide) (fun c_2 => ?_) (fun c_2 => ?_)
    · exact absurd hrd (bI_0 c_2)
    · have c_2 := bI_n0 c_2
      refine lv_iload_n hx hb dX1_compare_7 rfl (lv_at hl 3 rfl) ?_
      refine lv_if_lt (tgt := 19) hx hb dX1_compare_8 (by decide) (fun c_3 => ?_) (fun c_3 => ?_)
      · refine lv_bipush (v := -2) hx hb dX1_compare_19 (by decide) ?_
        have hP9 : va_P (dC, dI) vwCl (mw g0 g1 g2 cA (tb, n, kb, ln, rd, fp, st, mt, bg)) s.heap := hP
        have hD9 : va_D A (mw g0 g1 g2 cA (tb, n, kb, ln, rd, fp, st, mt, bg)) := hD
        exact W.iret (v := (-2)) hx hb hr (fun t ht hW => ⟨⟨(-2), (tb, n, kb, ln, rd, fp, st, mt, bg), rfl, ⟨rfl, _, _, _, rfl⟩, by rw [ht]; exact hP9, va_K.moved hW.alike hK, hD9⟩, hS.F ht⟩) hS.2.2 dX1_compare_21
      · refine lv_iload_n hx hb dX1_compare_11 rfl (lv_at hl 1 rfl) ?_
        refine lv_if_lt (tgt := 19) hx hb dX1_compare_12 (by decide) (fun c_4 => ?_) (fun c_4 => ?_)
        · refine lv_bipush (v := -2) hx hb dX1_compare_19 (by decide) ?_
          have hP9 : va_P (dC, dI) vwCl (mw g0 g1 g2 cA (tb, n, kb, ln, rd, fp, st, mt, bg)) s.heap := hP
          have hD9 : va_D A (mw g0 g1 g2 cA (tb, n, kb, ln, rd, fp, st, mt, bg)) := hD
          exact W.iret (v := (-2)) hx hb hr (fun t ht hW => ⟨⟨(-2), (tb, n, kb, ln, rd, fp, st, mt, bg), rfl, ⟨rfl, _, _, _, rfl⟩, by rw [ht]; exact hP9, va_K.moved hW.alike hK, hD9⟩, hS.F ht⟩) hS.2.2 dX1_compare_21
        · refine lv_iload_n hx hb dX1_compare_15 rfl (lv_at hl 2 rfl) ?_
          refine lv_if_ge (tgt := 22) hx hb dX1_compare_16 (by decide) (fun c_5 => ?_) (fun c_5 => ?_)
          · exact absurd hneg (by rintro (z | z | z); exact c_3 z; exact c_4 z; exact absurd z (Int32.not_lt.mpr c_5))
          · refine lv_bipush (v := -2) hx hb dX1_compare_19 (by decide) ?_
            have hP9 : va_P (dC, dI) vwCl (mw g0 g1 g2 cA (tb, n, kb, ln, rd, fp, st, mt, bg)) s.heap := hP
            have hD9 : va_D A (mw g0 g1 g2 cA (tb, n, kb, ln, rd, fp, st, mt, bg)) := hD
            exact W.iret (v := (-2)) hx hb hr (fun t ht hW => ⟨⟨(-2), (tb, n, kb, ln, rd, fp, st, mt, bg), rfl, ⟨rfl, _, _, _, rfl⟩, by rw [ht]; exact hP9, va_K.moved hW.alike hK, hD9⟩, hS.F ht⟩) hS.2.2 dX1_compare_21
  · have hsgb := chain_sg hkb (hch hrd)
    have loopB : a + m' ≤ k → b + m' ≤ k → ∀ (d z st2 : Nat) (mt2 bg2 : Int32) (H : Heap) (locs : List Loc) (ls : Array Slot), z + d = m' → cmpAt (fun y => nI (mf (a + y))) (fun y => nI (mf (b + y))) d z = res → va_P (dC, dI) vwCl [(g0, .inr (1, [.ref g1, .int (nI n), .ref g2, .int (nI ln), .int (bI rd), .int fp, .int (nI st2), .int mt2, .int bg2])), (g1, .inl (cA, 1000, .inl (fun j => nI (tb j)))), (g2, .inl (cA, 1000, .inl (fun j => nI (kb j))))] H → va_D A [(g0, .inr (1, [.ref g1, .int (nI n), .ref g2, .int (nI ln), .int (bI rd), .int fp, .int (nI st2), .int mt2, .int bg2])), (g1, .inl (cA, 1000, .inl (fun j => nI (tb j)))), (g2, .inl (cA, 1000, .inl (fun j => nI (kb j))))] → va_S A s.heap H locs → lv_has ls 7 [(5, .int (nI z)), (0, .ref g0), (1, .int (nI a)), (2, .int (nI b)), (3, .int (nI m'))] → W p l e (headSpec wsX1_compare ({ frames := 4, cells := 0, slots := 0, locals := 89 })).room s m ([.ref g0, .int (nI a), .int (nI b), .int (nI m')] : List Value).toArray below meth c H locs 0 0 (MQ below (va_Qi (fun (r : Int32) (u : MS) => r = res ∧ ∃ (st' : Nat) (mt' bg' : Int32), u = (tb, n, kb, ln, rd, fp, st', mt', bg')) (matt dC dI g0 g1 g2 cA A) A) ([.ref g0, .int (nI a), .int (nI b), .int (nI m')] : List Value).toArray s 0 0 A) (F0 m 65 ls []) := by
      intro hak hbk d
      induction d with
      | zero =>
        intro z st2 mt2 bg2 H locs ls hzd hR hP hD hS hl
        refine lv_iload hx hb dX1_compare_65 (lv_at hl 0 rfl) ?_
        refine lv_iload_n hx hb dX1_compare_67 rfl (lv_at hl 4 rfl) ?_
        refine lv_icmp_ge (tgt := 125) hx hb dX1_compare_68 (by decide) (fun c_6 => ?_) (fun c_6 => ?_)
        · have c_6 : m' ≤ z := (nI_leI (a := m') (b := z) (by omega) (by omega)).mp c_6
          refine lv_iconst (v := 0) hx hb dX1_compare_125 (by decide) ?_
          have hP9 : va_P (dC, dI) vwCl (mw g0 g1 g2 cA (tb, n, kb, ln, rd, fp, st2, mt2, bg2)) H := hP
          have hD9 : va_D A (mw g0 g1 g2 cA (tb, n, kb, ln, rd, fp, st2, mt2, bg2)) := hD
          exact W.iret (v := 0) hx hb hr (fun t ht hW => ⟨⟨0, (tb, n, kb, ln, rd, fp, st2, mt2, bg2), rfl, ⟨by rw [← hR]; rfl, _, _, _, rfl⟩, by rw [ht]; exact hP9, va_K.moved hW.alike hK, hD9⟩, hS.F ht⟩) hS.2.2 dX1_compare_126
        · exact absurd (nI_le (by omega) (by omega)) c_6
      | succ d ih =>
        intro z st2 mt2 bg2 H locs ls hzd hR hP hD hS hl
        refine lv_iload hx hb dX1_compare_65 (lv_at hl 0 rfl) ?_
        refine lv_iload_n hx hb dX1_compare_67 rfl (lv_at hl 4 rfl) ?_
        refine lv_icmp_ge (tgt := 125) hx hb dX1_compare_68 (by decide) (fun c_7 => ?_) (fun c_7 => ?_)
        · exact absurd c_7 (nI_ge (by omega) (by omega))
        · have c_7 : ¬ m' ≤ z := fun zz => c_7 ((nI_leI (a := m') (b := z) (by omega) (by omega)).mpr zz)
          refine lv_aload_n hx hb dX1_compare_71 rfl (lv_at hl 1 rfl) ?_
          refine lv_iload_n hx hb dX1_compare_72 rfl (lv_at hl 2 rfl) ?_
          refine lv_iload hx hb dX1_compare_73 (lv_at hl 0 rfl) ?_
          refine lv_iadd hx hb dX1_compare_75 ?_
          refine lv_topi (fun x_8 ex_8 => ?_)
          obtain rfl : x_8 = nI (a + z) := ex_8.trans (nI_add a z)
          have hFc := va_free (wc := mw g0 g1 g2 cA (tb, n, kb, ln, rd, fp, st2, mt2, bg2)) hD hS hA [0, 1, 2] rfl
          refine va_calli (va_runV (As := [.int (nI (a + z))]) (rest := []) ⟨hx, hb, hml, hown, hts⟩ (c_X1_go_yes l dC dI g0 g1 g2 cA H.size tb n kb ln rd fp st2 mt2 bg2 hkb hln k mf bf sg (hch hrd) (a + z) (by omega) hk hrd) (cwV 1 hts gX1_compare_X1_go rfl rfl rfl (by decide +kernel) ⟨Nat.le_of_ble_eq_true rfl, Nat.le_of_ble_eq_true rfl⟩) ⟨mmut_blind, va_recv hK hP (ci := 1) (q0 := 0) rfl rfl, fun U hU hW => ⟨rfl, mmut_of hP hK hD hU hW⟩⟩ rfl rfl hl.1 rfl (lv_room (Nat.le_of_ble_eq_true rfl)) dX1_compare_76 ⟨Nat.le_of_ble_eq_true rfl, Nat.le_of_ble_eq_true rfl⟩) hS (fun q _ h => hFc q h) hFc (fun r_9 u_9 t_9 H1 locs ht hvm hw hB hz1 hk1 hS => ?_)
          obtain ⟨hw0, hw1⟩ := hw
          obtain rfl : r_9 = 1 := hw0
          obtain rfl : u_9 = (tb, n, kb, ln, rd, fp, (sg ((a + z) + 1)), (nI (mf (a + z))), (nI (bf (a + z)))) := hw1
          obtain ⟨hP1, hK1, hD1⟩ := hB
          rw [ht] at hP1
          obtain ⟨hP, hD⟩ := va_join (wr := []) (w1 := mw g0 g1 g2 cA (tb, n, kb, ln, rd, fp, (sg ((a + z) + 1)), (nI (mf (a + z))), (nI (bf (a + z))))) hP hD [0, 1, 2] [] rfl rfl (by decide) (by decide) hk1 hFc hP1 hD1
          generalize H1 = H at hP hS ⊢
          have hP : va_P (dC, dI) vwCl [(g0, .inr (1, [.ref g1, .int (nI n), .ref g2, .int (nI ln), .int (bI rd), .int fp, .int (nI (sg ((a + z) + 1))), .int (nI (mf (a + z))), .int (nI (bf (a + z)))])), (g1, .inl (cA, 1000, .inl (fun j => nI (tb j)))), (g2, .inl (cA, 1000, .inl (fun j => nI (kb j))))] H := hP
          have hD : va_D A [(g0, .inr (1, [.ref g1, .int (nI n), .ref g2, .int (nI ln), .int (bI rd), .int fp, .int (nI (sg ((a + z) + 1))), .int (nI (mf (a + z))), .int (nI (bf (a + z)))])), (g1, .inl (cA, 1000, .inl (fun j => nI (tb j)))), (g2, .inl (cA, 1000, .inl (fun j => nI (kb j))))] := hD
          refine lv_pop hx hb dX1_compare_79 rfl ?_
          refine lv_aload_n hx hb dX1_compare_80 rfl (lv_at hl 1 rfl) ?_
          refine va_get (D := (dC, dI)) (ci := 1) (v := .int (nI (mf (a + z)))) (C := RX1) (T := TX1) (N := 9) hx hb hts hIn hown hK hP 0 rfl rfl 7 (by decide) (hts (.fieldLink RX1 57 RX1 "met" "I") (by decide +kernel)) (fun _ h9 => h9) rfl dX1_compare_81 ?_
          refine lv_istore (lv' := [(6, .int (nI (mf (a + z)))), (5, .int (nI z)), (0, .ref g0), (1, .int (nI a)), (2, .int (nI b)), (3, .int (nI m'))]) hx hb dX1_compare_84 hl (by decide) rfl (fun ls hl => ?_)
          refine lv_aload_n hx hb dX1_compare_86 rfl (lv_at hl 2 rfl) ?_
          refine lv_iload_n hx hb dX1_compare_87 rfl (lv_at hl 4 rfl) ?_
          refine lv_iload hx hb dX1_compare_88 (lv_at hl 1 rfl) ?_
          refine lv_iadd hx hb dX1_compare_90 ?_
          refine lv_topi (fun x_10 ex_10 => ?_)
          obtain rfl : x_10 = nI (b + z) := ex_10.trans (nI_add b z)
          have hFc := va_free (wc := mw g0 g1 g2 cA (tb, n, kb, ln, rd, fp, (sg ((a + z) + 1)), (nI (mf (a + z))), (nI (bf (a + z))))) hD hS hA [0, 1, 2] rfl
          refine va_calli (va_runV (As := [.int (nI (b + z))]) (rest := []) ⟨hx, hb, hml, hown, hts⟩ (c_X1_go_yes l dC dI g0 g1 g2 cA H.size tb n kb ln rd fp (sg ((a + z) + 1)) (nI (mf (a + z))) (nI (bf (a + z))) hkb hln k mf bf sg (hch hrd) (b + z) (by omega) hk hrd) (cwV 1 hts gX1_compare_X1_go rfl rfl rfl (by decide +kernel) ⟨Nat.le_of_ble_eq_true rfl, Nat.le_of_ble_eq_true rfl⟩) ⟨mmut_blind, va_recv hK hP (ci := 1) (q0 := 0) rfl rfl, fun U hU hW => ⟨rfl, mmut_of hP hK hD hU hW⟩⟩ rfl rfl hl.1 rfl (lv_room (Nat.le_of_ble_eq_true rfl)) dX1_compare_91 ⟨Nat.le_of_ble_eq_true rfl, Nat.le_of_ble_eq_true rfl⟩) hS (fun q _ h => hFc q h) hFc (fun r_11 u_11 t_11 H1 locs ht hvm hw hB hz1 hk1 hS => ?_)
          obtain ⟨hw0, hw1⟩ := hw
          obtain rfl : r_11 = 1 := hw0
          obtain rfl : u_11 = (tb, n, kb, ln, rd, fp, (sg ((b + z) + 1)), (nI (mf (b + z))), (nI (bf (b + z)))) := hw1
          obtain ⟨hP1, hK1, hD1⟩ := hB
          rw [ht] at hP1
          obtain ⟨hP, hD⟩ := va_join (wr := []) (w1 := mw g0 g1 g2 cA (tb, n, kb, ln, rd, fp, (sg ((b + z) + 1)), (nI (mf (b + z))), (nI (bf (b + z))))) hP hD [0, 1, 2] [] rfl rfl (by decide) (by decide) hk1 hFc hP1 hD1
          generalize H1 = H at hP hS ⊢
          have hP : va_P (dC, dI) vwCl [(g0, .inr (1, [.ref g1, .int (nI n), .ref g2, .int (nI ln), .int (bI rd), .int fp, .int (nI (sg ((b + z) + 1))), .int (nI (mf (b + z))), .int (nI (bf (b + z)))])), (g1, .inl (cA, 1000, .inl (fun j => nI (tb j)))), (g2, .inl (cA, 1000, .inl (fun j => nI (kb j))))] H := hP
          have hD : va_D A [(g0, .inr (1, [.ref g1, .int (nI n), .ref g2, .int (nI ln), .int (bI rd), .int fp, .int (nI (sg ((b + z) + 1))), .int (nI (mf (b + z))), .int (nI (bf (b + z)))])), (g1, .inl (cA, 1000, .inl (fun j => nI (tb j)))), (g2, .inl (cA, 1000, .inl (fun j => nI (kb j))))] := hD
          refine lv_pop hx hb dX1_compare_94 rfl ?_
          refine lv_iload hx hb dX1_compare_95 (lv_at hl 0 rfl) ?_
          refine lv_aload_n hx hb dX1_compare_97 rfl (lv_at hl 2 rfl) ?_
          refine va_get (D := (dC, dI)) (ci := 1) (v := .int (nI (mf (b + z)))) (C := RX1) (T := TX1) (N := 9) hx hb hts hIn hown hK hP 0 rfl rfl 7 (by decide) (hts (.fieldLink RX1 57 RX1 "met" "I") (by decide +kernel)) (fun _ h9 => h9) rfl dX1_compare_98 ?_
          refine lv_icmp_eq (tgt := 119) hx hb dX1_compare_101 (by decide) (fun c_12 => ?_) (fun c_12 => ?_)
          · refine lv_iinc (v := nI (z + 1)) (lv' := [(5, .int (nI (z + 1))), (6, .int (nI (mf (a + z)))), (0, .ref g0), (1, .int (nI a)), (2, .int (nI b)), (3, .int (nI m'))]) hx hb dX1_compare_119 hl (k := 1) rfl (nI_1 z) (by decide) rfl (fun ls hl => ?_)
            refine lv_goto (tgt := 65) hx hb dX1_compare_122 (by decide) ?_
            exact ih (z + 1) _ _ _ H locs ls (by omega) (by rw [← hR]; exact (cmpN_eq c_12).symm) hP hD hS (lv_sub hl [0, 2, 3, 4, 5] rfl)
          · refine lv_iload hx hb dX1_compare_104 (lv_at hl 0 rfl) ?_
            refine lv_aload_n hx hb dX1_compare_106 rfl (lv_at hl 2 rfl) ?_
            refine va_get (D := (dC, dI)) (ci := 1) (v := .int (nI (mf (b + z)))) (C := RX1) (T := TX1) (N := 9) hx hb hts hIn hown hK hP 0 rfl rfl 7 (by decide) (hts (.fieldLink RX1 57 RX1 "met" "I") (by decide +kernel)) (fun _ h9 => h9) rfl dX1_compare_107 ?_
            refine lv_icmp_ge (tgt := 117) hx hb dX1_compare_110 (by decide) (fun c_13 => ?_) (fun c_13 => ?_)
            · refine lv_iconst (v := 1) hx hb dX1_compare_117 (by decide) ?_
              have hP9 : va_P (dC, dI) vwCl (mw g0 g1 g2 cA (tb, n, kb, ln, rd, fp, (sg ((b + z) + 1)), (nI (mf (b + z))), (nI (bf (b + z))))) H := hP
              have hD9 : va_D A (mw g0 g1 g2 cA (tb, n, kb, ln, rd, fp, (sg ((b + z) + 1)), (nI (mf (b + z))), (nI (bf (b + z))))) := hD
              exact W.iret (v := 1) hx hb hr (fun t ht hW => ⟨⟨1, (tb, n, kb, ln, rd, fp, (sg ((b + z) + 1)), (nI (mf (b + z))), (nI (bf (b + z)))), rfl, ⟨by rw [← hR]; exact cmpN_gt c_12 c_13, _, _, _, rfl⟩, by rw [ht]; exact hP9, va_K.moved hW.alike hK, hD9⟩, hS.F ht⟩) hS.2.2 dX1_compare_118
            · refine lv_iconst (v := -1) hx hb dX1_compare_113 (by decide) ?_
              refine lv_goto (tgt := 118) hx hb dX1_compare_114 (by decide) ?_
              have hP9 : va_P (dC, dI) vwCl (mw g0 g1 g2 cA (tb, n, kb, ln, rd, fp, (sg ((b + z) + 1)), (nI (mf (b + z))), (nI (bf (b + z))))) H := hP
              have hD9 : va_D A (mw g0 g1 g2 cA (tb, n, kb, ln, rd, fp, (sg ((b + z) + 1)), (nI (mf (b + z))), (nI (bf (b + z))))) := hD
              exact W.iret (v := (-1)) hx hb hr (fun t ht hW => ⟨⟨(-1), (tb, n, kb, ln, rd, fp, (sg ((b + z) + 1)), (nI (mf (b + z))), (nI (bf (b + z)))), rfl, ⟨by rw [← hR]; exact cmpN_lt c_12 c_13, _, _, _, rfl⟩, by rw [ht]; exact hP9, va_K.moved hW.alike hK, hD9⟩, hS.F ht⟩) hS.2.2 dX1_compare_118
    have loopA : ∀ (d z : Nat) (mt2 bg2 : Int32) (H : Heap) (locs : List Loc) (ls : Array Slot), z + d = k → va_P (dC, dI) vwCl [(g0, .inr (1, [.ref g1, .int (nI n), .ref g2, .int (nI ln), .int (bI rd), .int fp, .int (nI (sg z)), .int mt2, .int bg2])), (g1, .inl (cA, 1000, .inl (fun j => nI (tb j)))), (g2, .inl (cA, 1000, .inl (fun j => nI (kb j))))] H → va_D A [(g0, .inr (1, [.ref g1, .int (nI n), .ref g2, .int (nI ln), .int (bI rd), .int fp, .int (nI (sg z)), .int mt2, .int bg2])), (g1, .inl (cA, 1000, .inl (fun j => nI (tb j)))), (g2, .inl (cA, 1000, .inl (fun j => nI (kb j))))] → va_S A s.heap H locs → lv_has ls 7 [(4, .int (nI z)), (0, .ref g0), (1, .int (nI a)), (2, .int (nI b)), (3, .int (nI m'))] → W p l e (headSpec wsX1_compare ({ frames := 4, cells := 0, slots := 0, locals := 89 })).room s m ([.ref g0, .int (nI a), .int (nI b), .int (nI m')] : List Value).toArray below meth c H locs 0 0 (MQ below (va_Qi (fun (r : Int32) (u : MS) => r = res ∧ ∃ (st' : Nat) (mt' bg' : Int32), u = (tb, n, kb, ln, rd, fp, st', mt', bg')) (matt dC dI g0 g1 g2 cA A) A) ([.ref g0, .int (nI a), .int (nI b), .int (nI m')] : List Value).toArray s 0 0 A) (F0 m 30 ls []) := by
      intro d
      induction d with
      | zero =>
        intro z mt2 bg2 H locs ls hzd hP hD hS hl
        have hsb := hsgb z (by omega)
        obtain rfl : z = k := by omega
        refine lv_aload_n hx hb dX1_compare_30 rfl (lv_at hl 1 rfl) ?_
        have hFc := va_free (wc := mw g0 g1 g2 cA (tb, n, kb, ln, rd, fp, (sg z), mt2, bg2)) hD hS hA [0, 1, 2] rfl
        refine va_calli (va_runV (As := []) (rest := []) ⟨hx, hb, hml, hown, hts⟩ (c_X1_next_end l dC dI g0 g1 g2 cA H.size tb n kb ln rd fp (sg z) mt2 bg2 hkb hln (by omega) (hch hrd).2.2) (cwV 0 hts gX1_compare_X1_next rfl rfl rfl (by decide +kernel) ⟨Nat.le_of_ble_eq_true rfl, Nat.le_of_ble_eq_true rfl⟩) ⟨mmut_blind, va_recv hK hP (ci := 1) (q0 := 0) rfl rfl, fun U hU hW => ⟨rfl, mmut_of hP hK hD hU hW⟩⟩ rfl rfl hl.1 rfl (lv_room (Nat.le_of_ble_eq_true rfl)) dX1_compare_31 ⟨Nat.le_of_ble_eq_true rfl, Nat.le_of_ble_eq_true rfl⟩) hS (fun q _ h => hFc q h) hFc (fun r_14 u_14 t_14 H1 locs ht hvm hw hB hz1 hk1 hS => ?_)
        obtain ⟨hw0, hw1⟩ := hw
        obtain rfl : r_14 = 0 := hw0
        obtain rfl : u_14 = (tb, n, kb, ln, rd, fp, (s0N kb ln (sg z)), mt2, bg2) := hw1
        obtain ⟨hP1, hK1, hD1⟩ := hB
        rw [ht] at hP1
        obtain ⟨hP, hD⟩ := va_join (wr := []) (w1 := mw g0 g1 g2 cA (tb, n, kb, ln, rd, fp, (s0N kb ln (sg z)), mt2, bg2)) hP hD [0, 1, 2] [] rfl rfl (by decide) (by decide) hk1 hFc hP1 hD1
        generalize H1 = H at hP hS ⊢
        have hP : va_P (dC, dI) vwCl [(g0, .inr (1, [.ref g1, .int (nI n), .ref g2, .int (nI ln), .int (bI rd), .int fp, .int (nI (s0N kb ln (sg z))), .int mt2, .int bg2])), (g1, .inl (cA, 1000, .inl (fun j => nI (tb j)))), (g2, .inl (cA, 1000, .inl (fun j => nI (kb j))))] H := hP
        have hD : va_D A [(g0, .inr (1, [.ref g1, .int (nI n), .ref g2, .int (nI ln), .int (bI rd), .int fp, .int (nI (s0N kb ln (sg z))), .int mt2, .int bg2])), (g1, .inl (cA, 1000, .inl (fun j => nI (tb j)))), (g2, .inl (cA, 1000, .inl (fun j => nI (kb j))))] := hD
        refine lv_if_eq (tgt := 43) hx hb dX1_compare_34 (by decide) (fun c_15 => ?_) (fun c_15 => ?_)
        · have c_15 : 0 = 0 := (nI_eq (a := 0) (b := 0) (by omega) (by omega)).mp c_15
          refine lv_iload_n hx hb dX1_compare_43 rfl (lv_at hl 4 rfl) ?_
          refine lv_iload hx hb dX1_compare_44 (lv_at hl 0 rfl) ?_
          refine lv_iload_n hx hb dX1_compare_46 rfl (lv_at hl 2 rfl) ?_
          refine lv_isub hx hb dX1_compare_47 ?_
          refine lv_icmp_gt (tgt := 59) hx hb dX1_compare_48 (by decide) (fun c_16 => ?_) (fun c_16 => ?_)
          · have hx1 : z < a + m' := by rw [Int32.lt_iff_toInt_lt, sub_toInt (by omega) (by omega), nI_toInt (by omega)] at c_16; omega
            refine lv_bipush (v := -2) hx hb dX1_compare_59 (by decide) ?_
            have hP9 : va_P (dC, dI) vwCl (mw g0 g1 g2 cA (tb, n, kb, ln, rd, fp, (s0N kb ln (sg z)), mt2, bg2)) H := hP
            have hD9 : va_D A (mw g0 g1 g2 cA (tb, n, kb, ln, rd, fp, (s0N kb ln (sg z)), mt2, bg2)) := hD
            exact W.iret (v := (-2)) hx hb hr (fun t ht hW => ⟨⟨(-2), (tb, n, kb, ln, rd, fp, (s0N kb ln (sg z)), mt2, bg2), rfl, ⟨by rw [hR0, if_pos hx1], _, _, _, rfl⟩, by rw [ht]; exact hP9, va_K.moved hW.alike hK, hD9⟩, hS.F ht⟩) hS.2.2 dX1_compare_61
          · have hx1 : ¬ z < a + m' := by intro zz; apply c_16; rw [Int32.lt_iff_toInt_lt, sub_toInt (by omega) (by omega), nI_toInt (by omega)]; omega
            refine lv_iload_n hx hb dX1_compare_51 rfl (lv_at hl 4 rfl) ?_
            refine lv_iload hx hb dX1_compare_52 (lv_at hl 0 rfl) ?_
            refine lv_iload_n hx hb dX1_compare_54 rfl (lv_at hl 3 rfl) ?_
            refine lv_isub hx hb dX1_compare_55 ?_
            refine lv_icmp_le (tgt := 62) hx hb dX1_compare_56 (by decide) (fun c_17 => ?_) (fun c_17 => ?_)
            · have hx2 : ¬ z < b + m' := by rw [Int32.le_iff_toInt_le, sub_toInt (by omega) (by omega), nI_toInt (by omega)] at c_17; omega
              refine lv_iconst (v := 0) hx hb dX1_compare_62 (by decide) ?_
              refine lv_istore (lv' := [(5, .int 0), (4, .int (nI z)), (0, .ref g0), (1, .int (nI a)), (2, .int (nI b)), (3, .int (nI m'))]) hx hb dX1_compare_63 hl (by decide) rfl (fun ls hl => ?_)
              exact loopB (by omega) (by omega) m' 0 _ _ _ H locs ls (by omega) (by rw [hR0, if_neg hx1, if_neg hx2]) hP hD hS (lv_sub hl [0, 2, 3, 4, 5] rfl)
            · have hx2 : z < b + m' := by have z9 := Int32.not_le.mp c_17; rw [Int32.lt_iff_toInt_lt, sub_toInt (by omega) (by omega), nI_toInt (by omega)] at z9; omega
              refine lv_bipush (v := -2) hx hb dX1_compare_59 (by decide) ?_
              have hP9 : va_P (dC, dI) vwCl (mw g0 g1 g2 cA (tb, n, kb, ln, rd, fp, (s0N kb ln (sg z)), mt2, bg2)) H := hP
              have hD9 : va_D A (mw g0 g1 g2 cA (tb, n, kb, ln, rd, fp, (s0N kb ln (sg z)), mt2, bg2)) := hD
              exact W.iret (v := (-2)) hx hb hr (fun t ht hW => ⟨⟨(-2), (tb, n, kb, ln, rd, fp, (s0N kb ln (sg z)), mt2, bg2), rfl, ⟨by rw [hR0, if_neg hx1, if_pos hx2], _, _, _, rfl⟩, by rw [ht]; exact hP9, va_K.moved hW.alike hK, hD9⟩, hS.F ht⟩) hS.2.2 dX1_compare_61
        · exact absurd c_15 (by decide)
      | succ d ih =>
        intro z mt2 bg2 H locs ls hzd hP hD hS hl
        have hsb := hsgb z (by omega)
        refine lv_aload_n hx hb dX1_compare_30 rfl (lv_at hl 1 rfl) ?_
        have hFc := va_free (wc := mw g0 g1 g2 cA (tb, n, kb, ln, rd, fp, (sg z), mt2, bg2)) hD hS hA [0, 1, 2] rfl
        obtain ⟨hgo, v_18, w_18, hsq, hmf, hbf, hsg⟩ := (hch hrd).2.1 z (by omega)
        have hlt_18 := seqN_lt hkb hsq
        refine va_calli (va_runV (As := []) (rest := []) ⟨hx, hb, hml, hown, hts⟩ (c_X1_next_some l dC dI g0 g1 g2 cA H.size tb n kb ln rd fp (sg z) mt2 bg2 hkb hln (by omega) v_18 w_18 hgo hsq) (cwV 0 hts gX1_compare_X1_next rfl rfl rfl (by decide +kernel) ⟨Nat.le_of_ble_eq_true rfl, Nat.le_of_ble_eq_true rfl⟩) ⟨mmut_blind, va_recv hK hP (ci := 1) (q0 := 0) rfl rfl, fun U hU hW => ⟨rfl, mmut_of hP hK hD hU hW⟩⟩ rfl rfl hl.1 rfl (lv_room (Nat.le_of_ble_eq_true rfl)) dX1_compare_31 ⟨Nat.le_of_ble_eq_true rfl, Nat.le_of_ble_eq_true rfl⟩) hS (fun q _ h => hFc q h) hFc (fun r_18 u_18 t_18 H1 locs ht hvm hw hB hz1 hk1 hS => ?_)
        obtain ⟨hw0, hw1⟩ := hw
        rw [← hmf, ← hsg, ← hbf] at hw1
        obtain rfl : r_18 = 1 := hw0
        obtain rfl : u_18 = (tb, n, kb, ln, rd, fp, (sg (z + 1)), (nI (mf z)), (nI (bf z))) := hw1
        obtain ⟨hP1, hK1, hD1⟩ := hB
        rw [ht] at hP1
        obtain ⟨hP, hD⟩ := va_join (wr := []) (w1 := mw g0 g1 g2 cA (tb, n, kb, ln, rd, fp, (sg (z + 1)), (nI (mf z)), (nI (bf z)))) hP hD [0, 1, 2] [] rfl rfl (by decide) (by decide) hk1 hFc hP1 hD1
        generalize H1 = H at hP hS ⊢
        have hP : va_P (dC, dI) vwCl [(g0, .inr (1, [.ref g1, .int (nI n), .ref g2, .int (nI ln), .int (bI rd), .int fp, .int (nI (sg (z + 1))), .int (nI (mf z)), .int (nI (bf z))])), (g1, .inl (cA, 1000, .inl (fun j => nI (tb j)))), (g2, .inl (cA, 1000, .inl (fun j => nI (kb j))))] H := hP
        have hD : va_D A [(g0, .inr (1, [.ref g1, .int (nI n), .ref g2, .int (nI ln), .int (bI rd), .int fp, .int (nI (sg (z + 1))), .int (nI (mf z)), .int (nI (bf z))])), (g1, .inl (cA, 1000, .inl (fun j => nI (tb j)))), (g2, .inl (cA, 1000, .inl (fun j => nI (kb j))))] := hD
        refine lv_if_eq (tgt := 43) hx hb dX1_compare_34 (by decide) (fun c_19 => ?_) (fun c_19 => ?_)
        · exact absurd c_19 (by decide)
        · have c_19 : ¬ 1 = 0 := fun zz => c_19 ((nI_eq (a := 1) (b := 0) (by omega) (by omega)).mpr zz)
          refine lv_iinc (v := nI (z + 1)) (lv' := [(4, .int (nI (z + 1))), (0, .ref g0), (1, .int (nI a)), (2, .int (nI b)), (3, .int (nI m'))]) hx hb dX1_compare_37 hl (k := 0) rfl (nI_1 z) (by decide) rfl (fun ls hl => ?_)
          refine lv_goto (tgt := 30) hx hb dX1_compare_40 (by decide) ?_
          exact ih (z + 1) _ _ H locs ls (by omega) hP hD hS (lv_sub hl [0, 1, 2, 3, 4] rfl)
    refine lv_aload_n hx hb dX1_compare_0 rfl (lv_at hl 0 rfl) ?_
    refine va_get (D := (dC, dI)) (ci := 1) (v := .int (bI rd)) (C := RX1) (T := TX1) (N := 9) hx hb hts hIn hown hK hP 0 rfl rfl 4 (by decide) (hts (.fieldLink RX1 60 RX1 "read" "Z") (by decide +kernel)) (fun _ h9 => h9) rfl dX1_compare_1 ?_
    refine lv_if_eq (tgt := 19) hx hb dX1_compare_4 (by decide) (fun c_20 => ?_) (fun c_20 => ?_)
    · exact absurd hrd (bI_0 c_20)
    · have c_20 := bI_n0 c_20
      refine lv_iload_n hx hb dX1_compare_7 rfl (lv_at hl 3 rfl) ?_
      refine lv_if_lt (tgt := 19) hx hb dX1_compare_8 (by decide) (fun c_21 => ?_) (fun c_21 => ?_)
      · exact absurd c_21 (nI_pos (by omega))
      · have c_21 : ¬ m' < 0 := fun zz => c_21 ((nI_ltI (a := m') (b := 0) (by omega) (by omega)).mpr zz)
        refine lv_iload_n hx hb dX1_compare_11 rfl (lv_at hl 1 rfl) ?_
        refine lv_if_lt (tgt := 19) hx hb dX1_compare_12 (by decide) (fun c_22 => ?_) (fun c_22 => ?_)
        · exact absurd c_22 (nI_pos (by omega))
        · have c_22 : ¬ a < 0 := fun zz => c_22 ((nI_ltI (a := a) (b := 0) (by omega) (by omega)).mpr zz)
          refine lv_iload_n hx hb dX1_compare_15 rfl (lv_at hl 2 rfl) ?_
          refine lv_if_ge (tgt := 22) hx hb dX1_compare_16 (by decide) (fun c_23 => ?_) (fun c_23 => ?_)
          · have c_23 : 0 ≤ b := (nI_leI (a := 0) (b := b) (by omega) (by omega)).mp c_23
            refine lv_iconst (v := 0) hx hb dX1_compare_22 (by decide) ?_
            refine lv_istore (lv' := [(4, .int 0), (0, .ref g0), (1, .int (nI a)), (2, .int (nI b)), (3, .int (nI m'))]) hx hb dX1_compare_23 hl (by decide) rfl (fun ls hl => ?_)
            refine lv_aload_n hx hb dX1_compare_25 rfl (lv_at hl 1 rfl) ?_
            refine lv_iconst (v := 0) hx hb dX1_compare_26 (by decide) ?_
            refine va_put (D := (dC, dI)) (ci := 1) (v := .int 0) (ty := .int) (C := RX1) (T := TX1) (N := 9) hx hb hts hIn tyX1 tyX1_ok nmX1 hown hK hP hD hS 0 rfl rfl 6 (by decide) (hts (.fieldLink RX1 41 RX1 "stand" "I") (by decide +kernel)) (fun _ h9 => h9) rfl (by decide +kernel) rfl rfl (Nat.le_of_ble_eq_true rfl) dX1_compare_27 (fun H locs hP hD hS => ?_)
            have hP : va_P (dC, dI) vwCl [(g0, .inr (1, [.ref g1, .int (nI n), .ref g2, .int (nI ln), .int (bI rd), .int fp, .int 0, .int mt, .int bg])), (g1, .inl (cA, 1000, .inl (fun j => nI (tb j)))), (g2, .inl (cA, 1000, .inl (fun j => nI (kb j))))] H := hP
            have hD : va_D A [(g0, .inr (1, [.ref g1, .int (nI n), .ref g2, .int (nI ln), .int (bI rd), .int fp, .int 0, .int mt, .int bg])), (g1, .inl (cA, 1000, .inl (fun j => nI (tb j)))), (g2, .inl (cA, 1000, .inl (fun j => nI (kb j))))] := hD
            exact loopA k 0 mt bg H locs ls (by omega) (by rw [(hch hrd).1]; exact hP) (by rw [(hch hrd).1]; exact hD) hS (lv_sub hl [0, 1, 2, 3, 4] rfl)
          · exact absurd (nI_pos' (by omega)) c_23
